/-! reference: X9_firstCross, X9_crosses, X9_bendsOf, X9_bends, X9_looksAt -/
theorem dX9_firstCross_0 : decode cX9_firstCross 0 = .ok (.iconst 0, 1) := by decide +kernel
theorem dX9_firstCross_1 : decode cX9_firstCross 1 = .ok (.istore_n 2, 1) := by decide +kernel
theorem dX9_firstCross_2 : decode cX9_firstCross 2 = .ok (.iload_n 2, 1) := by decide +kernel
theorem dX9_firstCross_3 : decode cX9_firstCross 3 = .ok (.iconst 1, 1) := by decide +kernel
theorem dX9_firstCross_4 : decode cX9_firstCross 4 = .ok (.iadd, 1) := by decide +kernel
theorem dX9_firstCross_5 : decode cX9_firstCross 5 = .ok (.iload_n 1, 1) := by decide +kernel
theorem dX9_firstCross_6 : decode cX9_firstCross 6 = .ok (.if_icmp .ge 42, 3) := by decide +kernel
theorem dX9_firstCross_9 : decode cX9_firstCross 9 = .ok (.iload_n 2, 1) := by decide +kernel
theorem dX9_firstCross_10 : decode cX9_firstCross 10 = .ok (.iconst 2, 1) := by decide +kernel
theorem dX9_firstCross_11 : decode cX9_firstCross 11 = .ok (.iadd, 1) := by decide +kernel
theorem dX9_firstCross_12 : decode cX9_firstCross 12 = .ok (.istore_n 3, 1) := by decide +kernel
theorem dX9_firstCross_13 : decode cX9_firstCross 13 = .ok (.iload_n 3, 1) := by decide +kernel
theorem dX9_firstCross_14 : decode cX9_firstCross 14 = .ok (.iconst 1, 1) := by decide +kernel
theorem dX9_firstCross_15 : decode cX9_firstCross 15 = .ok (.iadd, 1) := by decide +kernel
theorem dX9_firstCross_16 : decode cX9_firstCross 16 = .ok (.iload_n 1, 1) := by decide +kernel
theorem dX9_firstCross_17 : decode cX9_firstCross 17 = .ok (.if_icmp .ge 25, 3) := by decide +kernel
theorem dX9_firstCross_20 : decode cX9_firstCross 20 = .ok (.aload_n 0, 1) := by decide +kernel
theorem dX9_firstCross_21 : decode cX9_firstCross 21 = .ok (.iload_n 2, 1) := by decide +kernel
theorem dX9_firstCross_22 : decode cX9_firstCross 22 = .ok (.iload_n 3, 1) := by decide +kernel
theorem dX9_firstCross_23 : decode cX9_firstCross 23 = .ok (.invokevirtual 340, 3) := by decide +kernel
theorem dX9_firstCross_26 : decode cX9_firstCross 26 = .ok (.ifCond .eq 10, 3) := by decide +kernel
theorem dX9_firstCross_29 : decode cX9_firstCross 29 = .ok (.bipush 10, 2) := by decide +kernel
theorem dX9_firstCross_31 : decode cX9_firstCross 31 = .ok (.iload_n 2, 1) := by decide +kernel
theorem dX9_firstCross_32 : decode cX9_firstCross 32 = .ok (.imul, 1) := by decide +kernel
theorem dX9_firstCross_33 : decode cX9_firstCross 33 = .ok (.iload_n 3, 1) := by decide +kernel
theorem dX9_firstCross_34 : decode cX9_firstCross 34 = .ok (.iadd, 1) := by decide +kernel
theorem dX9_firstCross_35 : decode cX9_firstCross 35 = .ok (.ireturn, 1) := by decide +kernel
theorem dX9_firstCross_36 : decode cX9_firstCross 36 = .ok (.iinc 3 2, 3) := by decide +kernel
theorem dX9_firstCross_39 : decode cX9_firstCross 39 = .ok (.goto (-26), 3) := by decide +kernel
theorem dX9_firstCross_42 : decode cX9_firstCross 42 = .ok (.iinc 2 1, 3) := by decide +kernel
theorem dX9_firstCross_45 : decode cX9_firstCross 45 = .ok (.goto (-43), 3) := by decide +kernel
theorem dX9_firstCross_48 : decode cX9_firstCross 48 = .ok (.bipush (-2), 2) := by decide +kernel
theorem dX9_firstCross_50 : decode cX9_firstCross 50 = .ok (.ireturn, 1) := by decide +kernel
def fX9_firstCross_13 (N : Nat) (k_2 : Int32 → Int32 → List Int32 → Option (Int32)) : Nat → Int32 → Int32 → Int32 → List Int32 → Option (Int32)
  | 0 => fun _ _ _ _ => none
  | n + 1 => fun x1 x2 x3 v_placeIn =>
    if x1 ≤ (x3 + (1 : Int32)) then
    (mm_nm (x2 + (1 : Int32)) (fun (y_4 : Int32) =>
    k_2 x1 y_4 v_placeIn))
    else (mm_bd1 (fX9_areCrossed N x2 x3 v_placeIn) (fun (r_5 : Bool) =>
    if r_5 = false then
    (mm_nm (x3 + (2 : Int32)) (fun (y_8 : Int32) =>
    fX9_firstCross_13 N k_2 n x1 x2 y_8 v_placeIn))
    else (some ((((10 : Int32) * x2) + x3)))))

set_option maxHeartbeats 4000000 in
set_option maxRecDepth 100000 in
theorem tX9_firstCross_13 {p : Program} {l : Launch} {e : Env} {s : State} {m : MethodId} {args : Array Value} {below : List Frame} {meth : Method} {c : Code} {D : va_G} {cI cL cS cH : ClassId} {A : Nat → Prop} {d : Nat} {a : Nat → Nat} (hd : 3 ≤ d) (C0 : mm_Cx p s m args meth c RX9 cX9_firstCross 4 (some .int) D (mm_T cI cL cS cH) A) (hA : ∀ q, s.heap.size ≤ q → A q) {v_keptMany : Int32} {v_done : Int32} {v_rowsOf : Int32} {v_columnsOf : Int32} {v_folded : Int32} {v_wronged : Int32} {v_tapeMany : Int32} {v_textMany : Int32} {v_base : Int32} {v_at : Int32} {v_ends : Int32} {v_fault : Int32} {v_opened : Int32} {v_bentMany : Int32} {v_bentWrong : Int32} {v_moreWorn : Int32} {v_planned : Int32} {v_allWrong : Int32} {v_allWorn : Int32} {v_z : Int32} {v_wishedField : Int32} {v_isFound : Bool} {v_bestWrong : Int32} {v_bestWorn : Int32} {v_bestMany : Int32} {v_soughtBy : Int32} {v_sought : Int32} {v_soughtAt : Int32} {v_foundMany : Int32} {v_foundOrder : Int32} {v_isKept : Bool} {v_imageRows : Int32} {v_imageColumns : Int32} {v_imageFolded : Int32} {v_imageWronged : Int32} {v_bodies : Int32} {v_ran : Int32} {v_ownKind : Int32} {v_ownNumber : Int32} {v_limit : List Int32} {v_changeWas : List Int32} {v_changeIs : List Int32} {v_shapeRows : List Int32} {v_shapeColumns : List Int32} {v_row : List Int32} {v_column : List Int32} {v_below : List Int32} {v_face : List Int32} {v_worn : List Int32} {v_lastBend : List Int32} {v_tape : List Int32} {v_text : List Int32} {v_names : List Int32} {v_bends : List Int32} {v_high : List Int32} {v_to : List Int32} {v_pileSize : List Int32} {v_planLine : List Int32} {v_planWay : List Int32} {v_way1 : List Int32} {v_bestWay : List Int32} {v_order1 : List Int32} {v_bodyKind : List Int32} {v_trace : List Int32} {v_shelf : List Int32} {v_many : List Int32} {v_items : List Int64} {v_carried : List Int64} {r : Int32} (N : Nat) {k_2 : Int32 → Int32 → List Int32 → Option (Int32)} (hk_2 : ∀ (x1 : Int32) (x2 : Int32) (v_placeIn : List Int32) (H : Heap) (locs : List Loc) (ls : Array Slot), k_2 x1 x2 v_placeIn = some r → va_P D mm_cl (wd_X9 cI cL cS cH a v_keptMany v_done v_rowsOf v_columnsOf v_folded v_wronged v_tapeMany v_textMany v_base v_at v_ends v_fault v_opened v_bentMany v_bentWrong v_moreWorn v_planned v_allWrong v_allWorn v_z v_wishedField v_isFound v_bestWrong v_bestWorn v_bestMany v_soughtBy v_sought v_soughtAt v_foundMany v_foundOrder v_isKept v_imageRows v_imageColumns v_imageFolded v_imageWronged v_bodies v_ran v_ownKind v_ownNumber v_limit v_changeWas v_changeIs v_shapeRows v_shapeColumns v_row v_column v_below v_face v_worn v_lastBend v_tape v_text v_names v_bends v_high v_to v_pileSize v_planLine v_planWay v_way1 v_bestWay v_order1 v_placeIn v_bodyKind v_trace v_shelf v_many v_items v_carried) H → va_D A (wd_X9 cI cL cS cH a v_keptMany v_done v_rowsOf v_columnsOf v_folded v_wronged v_tapeMany v_textMany v_base v_at v_ends v_fault v_opened v_bentMany v_bentWrong v_moreWorn v_planned v_allWrong v_allWorn v_z v_wishedField v_isFound v_bestWrong v_bestWorn v_bestMany v_soughtBy v_sought v_soughtAt v_foundMany v_foundOrder v_isKept v_imageRows v_imageColumns v_imageFolded v_imageWronged v_bodies v_ran v_ownKind v_ownNumber v_limit v_changeWas v_changeIs v_shapeRows v_shapeColumns v_row v_column v_below v_face v_worn v_lastBend v_tape v_text v_names v_bends v_high v_to v_pileSize v_planLine v_planWay v_way1 v_bestWay v_order1 v_placeIn v_bodyKind v_trace v_shelf v_many v_items v_carried) → va_S A s.heap H locs → lv_has ls 4 [(0, .ref (a 0)), (1, .int x1), (2, .int x2)] → W p l e (mm_rr d) s m args below meth c H locs 0 0 (mm_Z below D A (wd_X9 cI cL cS cH a v_keptMany v_done v_rowsOf v_columnsOf v_folded v_wronged v_tapeMany v_textMany v_base v_at v_ends v_fault v_opened v_bentMany v_bentWrong v_moreWorn v_planned v_allWrong v_allWorn v_z v_wishedField v_isFound v_bestWrong v_bestWorn v_bestMany v_soughtBy v_sought v_soughtAt v_foundMany v_foundOrder v_isKept v_imageRows v_imageColumns v_imageFolded v_imageWronged v_bodies v_ran v_ownKind v_ownNumber v_limit v_changeWas v_changeIs v_shapeRows v_shapeColumns v_row v_column v_below v_face v_worn v_lastBend v_tape v_text v_names v_bends v_high v_to v_pileSize v_planLine v_planWay v_way1 v_bestWay v_order1 v_placeIn v_bodyKind v_trace v_shelf v_many v_items v_carried) (some (.int r)) args s) (F0 m 2 ls [])) : ∀ (n : Nat), ∀ (x1 : Int32) (x2 : Int32) (x3 : Int32) (v_placeIn : List Int32) (H : Heap) (locs : List Loc) (ls : Array Slot), fX9_firstCross_13 N k_2 n x1 x2 x3 v_placeIn = some r → va_P D mm_cl (wd_X9 cI cL cS cH a v_keptMany v_done v_rowsOf v_columnsOf v_folded v_wronged v_tapeMany v_textMany v_base v_at v_ends v_fault v_opened v_bentMany v_bentWrong v_moreWorn v_planned v_allWrong v_allWorn v_z v_wishedField v_isFound v_bestWrong v_bestWorn v_bestMany v_soughtBy v_sought v_soughtAt v_foundMany v_foundOrder v_isKept v_imageRows v_imageColumns v_imageFolded v_imageWronged v_bodies v_ran v_ownKind v_ownNumber v_limit v_changeWas v_changeIs v_shapeRows v_shapeColumns v_row v_column v_below v_face v_worn v_lastBend v_tape v_text v_names v_bends v_high v_to v_pileSize v_planLine v_planWay v_way1 v_bestWay v_order1 v_placeIn v_bodyKind v_trace v_shelf v_many v_items v_carried) H → va_D A (wd_X9 cI cL cS cH a v_keptMany v_done v_rowsOf v_columnsOf v_folded v_wronged v_tapeMany v_textMany v_base v_at v_ends v_fault v_opened v_bentMany v_bentWrong v_moreWorn v_planned v_allWrong v_allWorn v_z v_wishedField v_isFound v_bestWrong v_bestWorn v_bestMany v_soughtBy v_sought v_soughtAt v_foundMany v_foundOrder v_isKept v_imageRows v_imageColumns v_imageFolded v_imageWronged v_bodies v_ran v_ownKind v_ownNumber v_limit v_changeWas v_changeIs v_shapeRows v_shapeColumns v_row v_column v_below v_face v_worn v_lastBend v_tape v_text v_names v_bends v_high v_to v_pileSize v_planLine v_planWay v_way1 v_bestWay v_order1 v_placeIn v_bodyKind v_trace v_shelf v_many v_items v_carried) → va_S A s.heap H locs → lv_has ls 4 [(0, .ref (a 0)), (1, .int x1), (2, .int x2), (3, .int x3)] → W p l e (mm_rr d) s m args below meth c H locs 0 0 (mm_Z below D A (wd_X9 cI cL cS cH a v_keptMany v_done v_rowsOf v_columnsOf v_folded v_wronged v_tapeMany v_textMany v_base v_at v_ends v_fault v_opened v_bentMany v_bentWrong v_moreWorn v_planned v_allWrong v_allWorn v_z v_wishedField v_isFound v_bestWrong v_bestWorn v_bestMany v_soughtBy v_sought v_soughtAt v_foundMany v_foundOrder v_isKept v_imageRows v_imageColumns v_imageFolded v_imageWronged v_bodies v_ran v_ownKind v_ownNumber v_limit v_changeWas v_changeIs v_shapeRows v_shapeColumns v_row v_column v_below v_face v_worn v_lastBend v_tape v_text v_names v_bends v_high v_to v_pileSize v_planLine v_planWay v_way1 v_bestWay v_order1 v_placeIn v_bodyKind v_trace v_shelf v_many v_items v_carried) (some (.int r)) args s) (F0 m 13 ls []) := by
  obtain ⟨hx, hb, hml, hown, hts, hr, hlocks, hK, hSt⟩ := id C0
  intro n
  induction n with
  | zero =>
    intro x1 x2 x3 v_placeIn H locs ls hf
    cases (show none = some _ from hf)
  | succ n ih =>
    intro x1 x2 x3 v_placeIn H locs ls hf hP hD hS hl
    unfold fX9_firstCross_13 at hf
    refine lv_iload_n hx hb dX9_firstCross_13 rfl (lv_at hl 3 rfl) ?_
    refine lv_iconst (v := 1) hx hb dX9_firstCross_14 (by decide) ?_
    refine lv_iadd hx hb dX9_firstCross_15 ?_
    refine lv_iload_n hx hb dX9_firstCross_16 rfl (lv_at hl 1 rfl) ?_
    refine lv_icmp_ge (tgt := 42) hx hb dX9_firstCross_17 (by decide) (fun c_3 => ?_) (fun c_3 => ?_)
    · have hf := mm_ip hf c_3
      obtain ⟨y_4, ey_4⟩ : ∃ z : Int32, z = x2 + (1 : Int32) := ⟨_, rfl⟩
      have hf := mm_nms hf ey_4
      refine lv_iinc (v := y_4) (lv' := [(2, .int y_4), (0, .ref (a 0)), (1, .int x1), (3, .int x3)]) hx hb dX9_firstCross_42 hl (k := 2) rfl (by rw [ey_4]; rfl) (by decide) rfl (fun ls hl => ?_)
      refine lv_goto (tgt := 2) hx hb dX9_firstCross_45 (by decide) ?_
      exact hk_2 _ _ _ H locs ls hf hP hD hS (lv_sub hl [1, 2, 0] rfl)
    · have hf := mm_in hf c_3
      refine lv_aload_n hx hb dX9_firstCross_20 rfl (lv_at hl 0 rfl) ?_
      refine lv_iload_n hx hb dX9_firstCross_21 rfl (lv_at hl 2 rfl) ?_
      refine lv_iload_n hx hb dX9_firstCross_22 rfl (lv_at hl 3 rfl) ?_
      obtain ⟨r_5, hc_6, hf⟩ := mm_bd1s hf
      refine mm_callVF (q0 := 0) (ci := 9) (rest := []) C0 lk_X9_340 (ctX9_areCrossed (a := a) (d := d - 1) (by omega) hc_6) (by omega) rfl hl.1 rfl (mm_cat rfl) dX9_firstCross_23 hP hD hA hS rfl rfl (fun H locs hP hD hS => ?_)
      refine W.eq (g2 := F0 m 26 ls [.int (mm_b r_5)]) rfl ?_
      refine lv_if_eq (tgt := 36) hx hb dX9_firstCross_26 (by decide) (fun c_7 => ?_) (fun c_7 => ?_)
      · have hf := mm_ip hf (mm_b0 c_7)
        obtain ⟨y_8, ey_8⟩ : ∃ z : Int32, z = x3 + (2 : Int32) := ⟨_, rfl⟩
        have hf := mm_nms hf ey_8
        refine lv_iinc (v := y_8) (lv' := [(3, .int y_8), (0, .ref (a 0)), (1, .int x1), (2, .int x2)]) hx hb dX9_firstCross_36 hl (k := 3) rfl (by rw [ey_8]; rfl) (by decide) rfl (fun ls hl => ?_)
        refine lv_goto (tgt := 13) hx hb dX9_firstCross_39 (by decide) ?_
        exact ih _ _ _ _ H locs ls hf hP hD hS (lv_sub hl [1, 2, 3, 0] rfl)
      · have hf := mm_in hf (mm_b1 c_7)
        refine lv_bipush (v := 10) hx hb dX9_firstCross_29 (by decide) ?_
        refine lv_iload_n hx hb dX9_firstCross_31 rfl (lv_at hl 2 rfl) ?_
        refine lv_imul hx hb dX9_firstCross_32 ?_
        refine lv_iload_n hx hb dX9_firstCross_33 rfl (lv_at hl 3 rfl) ?_
        refine lv_iadd hx hb dX9_firstCross_34 ?_
        obtain rfl := mm_inj1 hf
        exact mm_iret C0 hP hD hS dX9_firstCross_35

def fX9_firstCross_2 (N : Nat)  : Nat → Int32 → Int32 → List Int32 → Option (Int32)
  | 0 => fun _ _ _ => none
  | n + 1 => fun x1 x2 v_placeIn =>
    if x1 ≤ (x2 + (1 : Int32)) then
    (some ((-2 : Int32)))
    else (mm_nm ((x2 + (2 : Int32))) (fun (y_2 : Int32) =>
    fX9_firstCross_13 N (fX9_firstCross_2 N n) N x1 x2 y_2 v_placeIn))

set_option maxHeartbeats 4000000 in
set_option maxRecDepth 100000 in
theorem tX9_firstCross_2 {p : Program} {l : Launch} {e : Env} {s : State} {m : MethodId} {args : Array Value} {below : List Frame} {meth : Method} {c : Code} {D : va_G} {cI cL cS cH : ClassId} {A : Nat → Prop} {d : Nat} {a : Nat → Nat} (hd : 3 ≤ d) (C0 : mm_Cx p s m args meth c RX9 cX9_firstCross 4 (some .int) D (mm_T cI cL cS cH) A) (hA : ∀ q, s.heap.size ≤ q → A q) {v_keptMany : Int32} {v_done : Int32} {v_rowsOf : Int32} {v_columnsOf : Int32} {v_folded : Int32} {v_wronged : Int32} {v_tapeMany : Int32} {v_textMany : Int32} {v_base : Int32} {v_at : Int32} {v_ends : Int32} {v_fault : Int32} {v_opened : Int32} {v_bentMany : Int32} {v_bentWrong : Int32} {v_moreWorn : Int32} {v_planned : Int32} {v_allWrong : Int32} {v_allWorn : Int32} {v_z : Int32} {v_wishedField : Int32} {v_isFound : Bool} {v_bestWrong : Int32} {v_bestWorn : Int32} {v_bestMany : Int32} {v_soughtBy : Int32} {v_sought : Int32} {v_soughtAt : Int32} {v_foundMany : Int32} {v_foundOrder : Int32} {v_isKept : Bool} {v_imageRows : Int32} {v_imageColumns : Int32} {v_imageFolded : Int32} {v_imageWronged : Int32} {v_bodies : Int32} {v_ran : Int32} {v_ownKind : Int32} {v_ownNumber : Int32} {v_limit : List Int32} {v_changeWas : List Int32} {v_changeIs : List Int32} {v_shapeRows : List Int32} {v_shapeColumns : List Int32} {v_row : List Int32} {v_column : List Int32} {v_below : List Int32} {v_face : List Int32} {v_worn : List Int32} {v_lastBend : List Int32} {v_tape : List Int32} {v_text : List Int32} {v_names : List Int32} {v_bends : List Int32} {v_high : List Int32} {v_to : List Int32} {v_pileSize : List Int32} {v_planLine : List Int32} {v_planWay : List Int32} {v_way1 : List Int32} {v_bestWay : List Int32} {v_order1 : List Int32} {v_bodyKind : List Int32} {v_trace : List Int32} {v_shelf : List Int32} {v_many : List Int32} {v_items : List Int64} {v_carried : List Int64} {r : Int32} (N : Nat)  : ∀ (n : Nat), ∀ (x1 : Int32) (x2 : Int32) (v_placeIn : List Int32) (H : Heap) (locs : List Loc) (ls : Array Slot), fX9_firstCross_2 N n x1 x2 v_placeIn = some r → va_P D mm_cl (wd_X9 cI cL cS cH a v_keptMany v_done v_rowsOf v_columnsOf v_folded v_wronged v_tapeMany v_textMany v_base v_at v_ends v_fault v_opened v_bentMany v_bentWrong v_moreWorn v_planned v_allWrong v_allWorn v_z v_wishedField v_isFound v_bestWrong v_bestWorn v_bestMany v_soughtBy v_sought v_soughtAt v_foundMany v_foundOrder v_isKept v_imageRows v_imageColumns v_imageFolded v_imageWronged v_bodies v_ran v_ownKind v_ownNumber v_limit v_changeWas v_changeIs v_shapeRows v_shapeColumns v_row v_column v_below v_face v_worn v_lastBend v_tape v_text v_names v_bends v_high v_to v_pileSize v_planLine v_planWay v_way1 v_bestWay v_order1 v_placeIn v_bodyKind v_trace v_shelf v_many v_items v_carried) H → va_D A (wd_X9 cI cL cS cH a v_keptMany v_done v_rowsOf v_columnsOf v_folded v_wronged v_tapeMany v_textMany v_base v_at v_ends v_fault v_opened v_bentMany v_bentWrong v_moreWorn v_planned v_allWrong v_allWorn v_z v_wishedField v_isFound v_bestWrong v_bestWorn v_bestMany v_soughtBy v_sought v_soughtAt v_foundMany v_foundOrder v_isKept v_imageRows v_imageColumns v_imageFolded v_imageWronged v_bodies v_ran v_ownKind v_ownNumber v_limit v_changeWas v_changeIs v_shapeRows v_shapeColumns v_row v_column v_below v_face v_worn v_lastBend v_tape v_text v_names v_bends v_high v_to v_pileSize v_planLine v_planWay v_way1 v_bestWay v_order1 v_placeIn v_bodyKind v_trace v_shelf v_many v_items v_carried) → va_S A s.heap H locs → lv_has ls 4 [(0, .ref (a 0)), (1, .int x1), (2, .int x2)] → W p l e (mm_rr d) s m args below meth c H locs 0 0 (mm_Z below D A (wd_X9 cI cL cS cH a v_keptMany v_done v_rowsOf v_columnsOf v_folded v_wronged v_tapeMany v_textMany v_base v_at v_ends v_fault v_opened v_bentMany v_bentWrong v_moreWorn v_planned v_allWrong v_allWorn v_z v_wishedField v_isFound v_bestWrong v_bestWorn v_bestMany v_soughtBy v_sought v_soughtAt v_foundMany v_foundOrder v_isKept v_imageRows v_imageColumns v_imageFolded v_imageWronged v_bodies v_ran v_ownKind v_ownNumber v_limit v_changeWas v_changeIs v_shapeRows v_shapeColumns v_row v_column v_below v_face v_worn v_lastBend v_tape v_text v_names v_bends v_high v_to v_pileSize v_planLine v_planWay v_way1 v_bestWay v_order1 v_placeIn v_bodyKind v_trace v_shelf v_many v_items v_carried) (some (.int r)) args s) (F0 m 2 ls []) := by
  obtain ⟨hx, hb, hml, hown, hts, hr, hlocks, hK, hSt⟩ := id C0
  intro n
  induction n with
  | zero =>
    intro x1 x2 v_placeIn H locs ls hf
    cases (show none = some _ from hf)
  | succ n ih =>
    intro x1 x2 v_placeIn H locs ls hf hP hD hS hl
    unfold fX9_firstCross_2 at hf
    refine lv_iload_n hx hb dX9_firstCross_2 rfl (lv_at hl 2 rfl) ?_
    refine lv_iconst (v := 1) hx hb dX9_firstCross_3 (by decide) ?_
    refine lv_iadd hx hb dX9_firstCross_4 ?_
    refine lv_iload_n hx hb dX9_firstCross_5 rfl (lv_at hl 1 rfl) ?_
    refine lv_icmp_ge (tgt := 48) hx hb dX9_firstCross_6 (by decide) (fun c_1 => ?_) (fun c_1 => ?_)
    · have hf := mm_ip hf c_1
      refine lv_bipush (v := -2) hx hb dX9_firstCross_48 (by decide) ?_
      obtain rfl := mm_inj1 hf
      exact mm_iret C0 hP hD hS dX9_firstCross_50
    · have hf := mm_in hf c_1
      refine lv_iload_n hx hb dX9_firstCross_9 rfl (lv_at hl 2 rfl) ?_
      refine lv_iconst (v := 2) hx hb dX9_firstCross_10 (by decide) ?_
      refine lv_iadd hx hb dX9_firstCross_11 ?_
      refine lv_topi (fun y_2 ey_2 => ?_)
      have hf := mm_nms hf ey_2
      refine lv_istore_n (lv' := [(3, .int y_2), (0, .ref (a 0)), (1, .int x1), (2, .int x2)]) hx hb dX9_firstCross_12 rfl hl (by decide) rfl (fun ls hl => ?_)
      exact tX9_firstCross_13 hd C0 hA N ih N _ _ _ _ H locs ls hf hP hD hS (lv_sub hl [1, 2, 3, 0] rfl)

def fX9_firstCross (N : Nat) (x1 : Int32) (v_placeIn : List Int32) : Option (Int32) :=
    fX9_firstCross_2 N N x1 (0 : Int32) v_placeIn

set_option maxHeartbeats 4000000 in
set_option maxRecDepth 100000 in
theorem ctX9_firstCross {l : Launch} {D : va_G} {cI cL cS cH : ClassId} {a : Nat → Nat} {x1 : Int32} {v_keptMany : Int32} {v_done : Int32} {v_rowsOf : Int32} {v_columnsOf : Int32} {v_folded : Int32} {v_wronged : Int32} {v_tapeMany : Int32} {v_textMany : Int32} {v_base : Int32} {v_at : Int32} {v_ends : Int32} {v_fault : Int32} {v_opened : Int32} {v_bentMany : Int32} {v_bentWrong : Int32} {v_moreWorn : Int32} {v_planned : Int32} {v_allWrong : Int32} {v_allWorn : Int32} {v_z : Int32} {v_wishedField : Int32} {v_isFound : Bool} {v_bestWrong : Int32} {v_bestWorn : Int32} {v_bestMany : Int32} {v_soughtBy : Int32} {v_sought : Int32} {v_soughtAt : Int32} {v_foundMany : Int32} {v_foundOrder : Int32} {v_isKept : Bool} {v_imageRows : Int32} {v_imageColumns : Int32} {v_imageFolded : Int32} {v_imageWronged : Int32} {v_bodies : Int32} {v_ran : Int32} {v_ownKind : Int32} {v_ownNumber : Int32} {v_limit : List Int32} {v_changeWas : List Int32} {v_changeIs : List Int32} {v_shapeRows : List Int32} {v_shapeColumns : List Int32} {v_row : List Int32} {v_column : List Int32} {v_below : List Int32} {v_face : List Int32} {v_worn : List Int32} {v_lastBend : List Int32} {v_tape : List Int32} {v_text : List Int32} {v_names : List Int32} {v_bends : List Int32} {v_high : List Int32} {v_to : List Int32} {v_pileSize : List Int32} {v_planLine : List Int32} {v_planWay : List Int32} {v_way1 : List Int32} {v_bestWay : List Int32} {v_order1 : List Int32} {v_placeIn : List Int32} {v_bodyKind : List Int32} {v_trace : List Int32} {v_shelf : List Int32} {v_many : List Int32} {v_items : List Int64} {v_carried : List Int64} {r : Int32} {N d : Nat} (hd : 3 ≤ d) (hf : fX9_firstCross N x1 v_placeIn = some r) : mm_Ct l yX9_firstCross cX9_firstCross 4 (some .int) d D (mm_T cI cL cS cH) [.ref (a 0), .int x1] (wd_X9 cI cL cS cH a v_keptMany v_done v_rowsOf v_columnsOf v_folded v_wronged v_tapeMany v_textMany v_base v_at v_ends v_fault v_opened v_bentMany v_bentWrong v_moreWorn v_planned v_allWrong v_allWorn v_z v_wishedField v_isFound v_bestWrong v_bestWorn v_bestMany v_soughtBy v_sought v_soughtAt v_foundMany v_foundOrder v_isKept v_imageRows v_imageColumns v_imageFolded v_imageWronged v_bodies v_ran v_ownKind v_ownNumber v_limit v_changeWas v_changeIs v_shapeRows v_shapeColumns v_row v_column v_below v_face v_worn v_lastBend v_tape v_text v_names v_bends v_high v_to v_pileSize v_planLine v_planWay v_way1 v_bestWay v_order1 v_placeIn v_bodyKind v_trace v_shelf v_many v_items v_carried) (wd_X9 cI cL cS cH a v_keptMany v_done v_rowsOf v_columnsOf v_folded v_wronged v_tapeMany v_textMany v_base v_at v_ends v_fault v_opened v_bentMany v_bentWrong v_moreWorn v_planned v_allWrong v_allWorn v_z v_wishedField v_isFound v_bestWrong v_bestWorn v_bestMany v_soughtBy v_sought v_soughtAt v_foundMany v_foundOrder v_isKept v_imageRows v_imageColumns v_imageFolded v_imageWronged v_bodies v_ran v_ownKind v_ownNumber v_limit v_changeWas v_changeIs v_shapeRows v_shapeColumns v_row v_column v_below v_face v_worn v_lastBend v_tape v_text v_names v_bends v_high v_to v_pileSize v_planLine v_planWay v_way1 v_bestWay v_order1 v_placeIn v_bodyKind v_trace v_shelf v_many v_items v_carried) (some (.int r)) := by
  refine mm_of (by decide) (Nat.le_of_ble_eq_true rfl) ?_
  intro p e s m args below meth c A H locs ls C0 hP hD hA hS hl
  have C0 : mm_Cx p s m args meth c RX9 cX9_firstCross 4 (some .int) D (mm_T cI cL cS cH) A := C0
  obtain ⟨hx, hb, hml, hown, hts, hr, hlocks, hK, hSt⟩ := id C0
  have hl : lv_has ls 4 [(0, .ref (a 0)), (1, .int x1)] := hl
  unfold fX9_firstCross at hf
  refine lv_iconst (v := 0) hx hb dX9_firstCross_0 (by decide) ?_
  refine lv_istore_n (lv' := [(2, .int (0 : Int32)), (0, .ref (a 0)), (1, .int x1)]) hx hb dX9_firstCross_1 rfl hl (by decide) rfl (fun ls hl => ?_)
  exact tX9_firstCross_2 hd C0 hA N  N _ _ _ H locs ls hf hP hD hS (lv_sub hl [1, 2, 0] rfl)

theorem dX9_crosses_0 : decode cX9_crosses 0 = .ok (.iload_n 1, 1) := by decide +kernel
theorem dX9_crosses_1 : decode cX9_crosses 1 = .ok (.invokestatic 343, 3) := by decide +kernel
theorem dX9_crosses_4 : decode cX9_crosses 4 = .ok (.ifCond .eq 20, 3) := by decide +kernel
theorem dX9_crosses_7 : decode cX9_crosses 7 = .ok (.aload_n 0, 1) := by decide +kernel
theorem dX9_crosses_8 : decode cX9_crosses 8 = .ok (.iload_n 1, 1) := by decide +kernel
theorem dX9_crosses_9 : decode cX9_crosses 9 = .ok (.iload_n 2, 1) := by decide +kernel
theorem dX9_crosses_10 : decode cX9_crosses 10 = .ok (.invokevirtual 346, 3) := by decide +kernel
theorem dX9_crosses_13 : decode cX9_crosses 13 = .ok (.ifCond .eq 11, 3) := by decide +kernel
theorem dX9_crosses_16 : decode cX9_crosses 16 = .ok (.aload_n 0, 1) := by decide +kernel
theorem dX9_crosses_17 : decode cX9_crosses 17 = .ok (.iload_n 1, 1) := by decide +kernel
theorem dX9_crosses_18 : decode cX9_crosses 18 = .ok (.invokevirtual 349, 3) := by decide +kernel
theorem dX9_crosses_21 : decode cX9_crosses 21 = .ok (.goto 4, 3) := by decide +kernel
theorem dX9_crosses_24 : decode cX9_crosses 24 = .ok (.iconst (-1), 1) := by decide +kernel
theorem dX9_crosses_25 : decode cX9_crosses 25 = .ok (.ireturn, 1) := by decide +kernel
def fX9_crosses (N : Nat) (x1 : Int32) (x2 : Int32) (v_order1 : List Int32) (v_placeIn : List Int32) : Option (Int32 × List Int32 × List Int32) :=
    mm_bd1 (fX9_isStrip N x1) (fun (r_1 : Bool) =>
    if r_1 = false then
    (some ((-1 : Int32), v_order1, v_placeIn))
    else (mm_bd3 (fX9_isOrder N x1 x2 v_order1 v_placeIn) (fun (r_4 : Bool) (w_5 : List Int32) (w_6 : List Int32) =>
    if r_4 = false then
    (some ((-1 : Int32), w_5, w_6))
    else (mm_bd1 (fX9_firstCross N x1 w_6) (fun (r_9 : Int32) =>
    some (r_9, w_5, w_6))))))

set_option maxHeartbeats 4000000 in
set_option maxRecDepth 100000 in
theorem ctX9_crosses {l : Launch} {D : va_G} {cI cL cS cH : ClassId} {a : Nat → Nat} {x1 : Int32} {x2 : Int32} {v_keptMany : Int32} {v_done : Int32} {v_rowsOf : Int32} {v_columnsOf : Int32} {v_folded : Int32} {v_wronged : Int32} {v_tapeMany : Int32} {v_textMany : Int32} {v_base : Int32} {v_at : Int32} {v_ends : Int32} {v_fault : Int32} {v_opened : Int32} {v_bentMany : Int32} {v_bentWrong : Int32} {v_moreWorn : Int32} {v_planned : Int32} {v_allWrong : Int32} {v_allWorn : Int32} {v_z : Int32} {v_wishedField : Int32} {v_isFound : Bool} {v_bestWrong : Int32} {v_bestWorn : Int32} {v_bestMany : Int32} {v_soughtBy : Int32} {v_sought : Int32} {v_soughtAt : Int32} {v_foundMany : Int32} {v_foundOrder : Int32} {v_isKept : Bool} {v_imageRows : Int32} {v_imageColumns : Int32} {v_imageFolded : Int32} {v_imageWronged : Int32} {v_bodies : Int32} {v_ran : Int32} {v_ownKind : Int32} {v_ownNumber : Int32} {v_limit : List Int32} {v_changeWas : List Int32} {v_changeIs : List Int32} {v_shapeRows : List Int32} {v_shapeColumns : List Int32} {v_row : List Int32} {v_column : List Int32} {v_below : List Int32} {v_face : List Int32} {v_worn : List Int32} {v_lastBend : List Int32} {v_tape : List Int32} {v_text : List Int32} {v_names : List Int32} {v_bends : List Int32} {v_high : List Int32} {v_to : List Int32} {v_pileSize : List Int32} {v_planLine : List Int32} {v_planWay : List Int32} {v_way1 : List Int32} {v_bestWay : List Int32} {v_order1 : List Int32} {v_placeIn : List Int32} {v_bodyKind : List Int32} {v_trace : List Int32} {v_shelf : List Int32} {v_many : List Int32} {v_items : List Int64} {v_carried : List Int64} {r : Int32} {w_order1 : List Int32} {w_placeIn : List Int32} {N d : Nat} (hd : 4 ≤ d) (hf : fX9_crosses N x1 x2 v_order1 v_placeIn = some (r, w_order1, w_placeIn)) : mm_Ct l yX9_crosses cX9_crosses 3 (some .int) d D (mm_T cI cL cS cH) [.ref (a 0), .int x1, .int x2] (wd_X9 cI cL cS cH a v_keptMany v_done v_rowsOf v_columnsOf v_folded v_wronged v_tapeMany v_textMany v_base v_at v_ends v_fault v_opened v_bentMany v_bentWrong v_moreWorn v_planned v_allWrong v_allWorn v_z v_wishedField v_isFound v_bestWrong v_bestWorn v_bestMany v_soughtBy v_sought v_soughtAt v_foundMany v_foundOrder v_isKept v_imageRows v_imageColumns v_imageFolded v_imageWronged v_bodies v_ran v_ownKind v_ownNumber v_limit v_changeWas v_changeIs v_shapeRows v_shapeColumns v_row v_column v_below v_face v_worn v_lastBend v_tape v_text v_names v_bends v_high v_to v_pileSize v_planLine v_planWay v_way1 v_bestWay v_order1 v_placeIn v_bodyKind v_trace v_shelf v_many v_items v_carried) (wd_X9 cI cL cS cH a v_keptMany v_done v_rowsOf v_columnsOf v_folded v_wronged v_tapeMany v_textMany v_base v_at v_ends v_fault v_opened v_bentMany v_bentWrong v_moreWorn v_planned v_allWrong v_allWorn v_z v_wishedField v_isFound v_bestWrong v_bestWorn v_bestMany v_soughtBy v_sought v_soughtAt v_foundMany v_foundOrder v_isKept v_imageRows v_imageColumns v_imageFolded v_imageWronged v_bodies v_ran v_ownKind v_ownNumber v_limit v_changeWas v_changeIs v_shapeRows v_shapeColumns v_row v_column v_below v_face v_worn v_lastBend v_tape v_text v_names v_bends v_high v_to v_pileSize v_planLine v_planWay v_way1 v_bestWay w_order1 w_placeIn v_bodyKind v_trace v_shelf v_many v_items v_carried) (some (.int r)) := by
  refine mm_of (by decide) (Nat.le_of_ble_eq_true rfl) ?_
  intro p e s m args below meth c A H locs ls C0 hP hD hA hS hl
  have C0 : mm_Cx p s m args meth c RX9 cX9_crosses 3 (some .int) D (mm_T cI cL cS cH) A := C0
  obtain ⟨hx, hb, hml, hown, hts, hr, hlocks, hK, hSt⟩ := id C0
  have hl : lv_has ls 3 [(0, .ref (a 0)), (1, .int x1), (2, .int x2)] := hl
  unfold fX9_crosses at hf
  refine lv_iload_n hx hb dX9_crosses_0 rfl (lv_at hl 1 rfl) ?_
  obtain ⟨r_1, hc_2, hf⟩ := mm_bd1s hf
  refine mm_callS0 (rest := []) C0 lk_X9_343 (ctX9_isStrip (d := d - 1) (by omega) hc_2) (by omega) rfl hl.1 rfl (mm_cat rfl) dX9_crosses_1 hP hD hA hS (fun H locs hP hS => ?_)
  refine W.eq (g2 := F0 m 4 ls [.int (mm_b r_1)]) rfl ?_
  refine lv_if_eq (tgt := 24) hx hb dX9_crosses_4 (by decide) (fun c_3 => ?_) (fun c_3 => ?_)
  · have hf := mm_ip hf (mm_b0 c_3)
    refine lv_iconst (v := -1) hx hb dX9_crosses_24 (by decide) ?_
    apply mm_sub3 hf
    exact mm_iret C0 hP hD hS dX9_crosses_25
  · have hf := mm_in hf (mm_b1 c_3)
    refine lv_aload_n hx hb dX9_crosses_7 rfl (lv_at hl 0 rfl) ?_
    refine lv_iload_n hx hb dX9_crosses_8 rfl (lv_at hl 1 rfl) ?_
    refine lv_iload_n hx hb dX9_crosses_9 rfl (lv_at hl 2 rfl) ?_
    obtain ⟨r_4, w_5, w_6, hc_7, hf⟩ := mm_bd3s hf
    refine mm_callVF (q0 := 0) (ci := 9) (rest := []) C0 lk_X9_346 (ctX9_isOrder (a := a) (d := d - 1) (by omega) hc_7) (by omega) rfl hl.1 rfl (mm_cat rfl) dX9_crosses_10 hP hD hA hS rfl rfl (fun H locs hP hD hS => ?_)
    refine W.eq (g2 := F0 m 13 ls [.int (mm_b r_4)]) rfl ?_
    refine lv_if_eq (tgt := 24) hx hb dX9_crosses_13 (by decide) (fun c_8 => ?_) (fun c_8 => ?_)
    · have hf := mm_ip hf (mm_b0 c_8)
      refine lv_iconst (v := -1) hx hb dX9_crosses_24 (by decide) ?_
      apply mm_sub3 hf
      exact mm_iret C0 hP hD hS dX9_crosses_25
    · have hf := mm_in hf (mm_b1 c_8)
      refine lv_aload_n hx hb dX9_crosses_16 rfl (lv_at hl 0 rfl) ?_
      refine lv_iload_n hx hb dX9_crosses_17 rfl (lv_at hl 1 rfl) ?_
      obtain ⟨r_9, hc_10, hf⟩ := mm_bd1s hf
      refine mm_callVF (q0 := 0) (ci := 9) (rest := []) C0 lk_X9_349 (ctX9_firstCross (a := a) (d := d - 1) (by omega) hc_10) (by omega) rfl hl.1 rfl (mm_cat rfl) dX9_crosses_18 hP hD hA hS rfl rfl (fun H locs hP hD hS => ?_)
      refine W.eq (g2 := F0 m 21 ls [.int r_9]) rfl ?_
      refine lv_goto (tgt := 25) hx hb dX9_crosses_21 (by decide) ?_
      apply mm_sub3 hf
      exact mm_iret C0 hP hD hS dX9_crosses_25

theorem dX9_bendsOf_0 : decode cX9_bendsOf 0 = .ok (.iconst 0, 1) := by decide +kernel
theorem dX9_bendsOf_1 : decode cX9_bendsOf 1 = .ok (.istore_n 2, 1) := by decide +kernel
theorem dX9_bendsOf_2 : decode cX9_bendsOf 2 = .ok (.iconst 0, 1) := by decide +kernel
theorem dX9_bendsOf_3 : decode cX9_bendsOf 3 = .ok (.istore_n 3, 1) := by decide +kernel
theorem dX9_bendsOf_4 : decode cX9_bendsOf 4 = .ok (.iload_n 3, 1) := by decide +kernel
theorem dX9_bendsOf_5 : decode cX9_bendsOf 5 = .ok (.iconst 1, 1) := by decide +kernel
theorem dX9_bendsOf_6 : decode cX9_bendsOf 6 = .ok (.iadd, 1) := by decide +kernel
theorem dX9_bendsOf_7 : decode cX9_bendsOf 7 = .ok (.iload_n 1, 1) := by decide +kernel
theorem dX9_bendsOf_8 : decode cX9_bendsOf 8 = .ok (.if_icmp .ge 59, 3) := by decide +kernel
theorem dX9_bendsOf_11 : decode cX9_bendsOf 11 = .ok (.aload_n 0, 1) := by decide +kernel
theorem dX9_bendsOf_12 : decode cX9_bendsOf 12 = .ok (.getfield 79, 3) := by decide +kernel
theorem dX9_bendsOf_15 : decode cX9_bendsOf 15 = .ok (.iload_n 3, 1) := by decide +kernel
theorem dX9_bendsOf_16 : decode cX9_bendsOf 16 = .ok (.iaload, 1) := by decide +kernel
theorem dX9_bendsOf_17 : decode cX9_bendsOf 17 = .ok (.aload_n 0, 1) := by decide +kernel
theorem dX9_bendsOf_18 : decode cX9_bendsOf 18 = .ok (.getfield 79, 3) := by decide +kernel
theorem dX9_bendsOf_21 : decode cX9_bendsOf 21 = .ok (.iload_n 3, 1) := by decide +kernel
theorem dX9_bendsOf_22 : decode cX9_bendsOf 22 = .ok (.iconst 1, 1) := by decide +kernel
theorem dX9_bendsOf_23 : decode cX9_bendsOf 23 = .ok (.iadd, 1) := by decide +kernel
theorem dX9_bendsOf_24 : decode cX9_bendsOf 24 = .ok (.iaload, 1) := by decide +kernel
theorem dX9_bendsOf_25 : decode cX9_bendsOf 25 = .ok (.if_icmp .ge 7, 3) := by decide +kernel
theorem dX9_bendsOf_28 : decode cX9_bendsOf 28 = .ok (.iconst 1, 1) := by decide +kernel
theorem dX9_bendsOf_29 : decode cX9_bendsOf 29 = .ok (.goto 4, 3) := by decide +kernel
theorem dX9_bendsOf_32 : decode cX9_bendsOf 32 = .ok (.iconst 0, 1) := by decide +kernel
theorem dX9_bendsOf_33 : decode cX9_bendsOf 33 = .ok (.istore 4, 2) := by decide +kernel
theorem dX9_bendsOf_35 : decode cX9_bendsOf 35 = .ok (.iload_n 2, 1) := by decide +kernel
theorem dX9_bendsOf_36 : decode cX9_bendsOf 36 = .ok (.iload 4, 2) := by decide +kernel
theorem dX9_bendsOf_38 : decode cX9_bendsOf 38 = .ok (.iload_n 3, 1) := by decide +kernel
theorem dX9_bendsOf_39 : decode cX9_bendsOf 39 = .ok (.iconst 2, 1) := by decide +kernel
theorem dX9_bendsOf_40 : decode cX9_bendsOf 40 = .ok (.irem, 1) := by decide +kernel
theorem dX9_bendsOf_41 : decode cX9_bendsOf 41 = .ok (.ifCond .ne 7, 3) := by decide +kernel
theorem dX9_bendsOf_44 : decode cX9_bendsOf 44 = .ok (.iconst 1, 1) := by decide +kernel
theorem dX9_bendsOf_45 : decode cX9_bendsOf 45 = .ok (.goto 4, 3) := by decide +kernel
theorem dX9_bendsOf_48 : decode cX9_bendsOf 48 = .ok (.iconst 0, 1) := by decide +kernel
theorem dX9_bendsOf_49 : decode cX9_bendsOf 49 = .ok (.if_icmp .ne 9, 3) := by decide +kernel
theorem dX9_bendsOf_52 : decode cX9_bendsOf 52 = .ok (.iconst 1, 1) := by decide +kernel
theorem dX9_bendsOf_53 : decode cX9_bendsOf 53 = .ok (.iload_n 3, 1) := by decide +kernel
theorem dX9_bendsOf_54 : decode cX9_bendsOf 54 = .ok (.ishl, 1) := by decide +kernel
theorem dX9_bendsOf_55 : decode cX9_bendsOf 55 = .ok (.goto 4, 3) := by decide +kernel
theorem dX9_bendsOf_58 : decode cX9_bendsOf 58 = .ok (.iconst 0, 1) := by decide +kernel
theorem dX9_bendsOf_59 : decode cX9_bendsOf 59 = .ok (.ior, 1) := by decide +kernel
theorem dX9_bendsOf_60 : decode cX9_bendsOf 60 = .ok (.istore_n 2, 1) := by decide +kernel
theorem dX9_bendsOf_61 : decode cX9_bendsOf 61 = .ok (.iinc 3 1, 3) := by decide +kernel
theorem dX9_bendsOf_64 : decode cX9_bendsOf 64 = .ok (.goto (-60), 3) := by decide +kernel
theorem dX9_bendsOf_67 : decode cX9_bendsOf 67 = .ok (.iload_n 2, 1) := by decide +kernel
theorem dX9_bendsOf_68 : decode cX9_bendsOf 68 = .ok (.ireturn, 1) := by decide +kernel
def fX9_bendsOf_59 (N : Nat) (k_4 : Int32 → Int32 → Int32 → List Int32 → Option (Int32)) (x1 : Int32) (x3 : Int32) (s0 : Int32) (s1 : Int32) (v_placeIn : List Int32) : Option (Int32) :=
    mm_nm ((s1 ||| s0)) (fun (y_8 : Int32) =>
    mm_nm (x3 + (1 : Int32)) (fun (y_9 : Int32) =>
    k_4 x1 y_8 y_9 v_placeIn))

set_option maxHeartbeats 4000000 in
set_option maxRecDepth 100000 in
theorem tX9_bendsOf_59 {p : Program} {l : Launch} {e : Env} {s : State} {m : MethodId} {args : Array Value} {below : List Frame} {meth : Method} {c : Code} {D : va_G} {cI cL cS cH : ClassId} {A : Nat → Prop} {d : Nat} {a : Nat → Nat} (hd : 1 ≤ d) (C0 : mm_Cx p s m args meth c RX9 cX9_bendsOf 5 (some .int) D (mm_T cI cL cS cH) A) (hA : ∀ q, s.heap.size ≤ q → A q) {v_keptMany : Int32} {v_done : Int32} {v_rowsOf : Int32} {v_columnsOf : Int32} {v_folded : Int32} {v_wronged : Int32} {v_tapeMany : Int32} {v_textMany : Int32} {v_base : Int32} {v_at : Int32} {v_ends : Int32} {v_fault : Int32} {v_opened : Int32} {v_bentMany : Int32} {v_bentWrong : Int32} {v_moreWorn : Int32} {v_planned : Int32} {v_allWrong : Int32} {v_allWorn : Int32} {v_z : Int32} {v_wishedField : Int32} {v_isFound : Bool} {v_bestWrong : Int32} {v_bestWorn : Int32} {v_bestMany : Int32} {v_soughtBy : Int32} {v_sought : Int32} {v_soughtAt : Int32} {v_foundMany : Int32} {v_foundOrder : Int32} {v_isKept : Bool} {v_imageRows : Int32} {v_imageColumns : Int32} {v_imageFolded : Int32} {v_imageWronged : Int32} {v_bodies : Int32} {v_ran : Int32} {v_ownKind : Int32} {v_ownNumber : Int32} {v_limit : List Int32} {v_changeWas : List Int32} {v_changeIs : List Int32} {v_shapeRows : List Int32} {v_shapeColumns : List Int32} {v_row : List Int32} {v_column : List Int32} {v_below : List Int32} {v_face : List Int32} {v_worn : List Int32} {v_lastBend : List Int32} {v_tape : List Int32} {v_text : List Int32} {v_names : List Int32} {v_bends : List Int32} {v_high : List Int32} {v_to : List Int32} {v_pileSize : List Int32} {v_planLine : List Int32} {v_planWay : List Int32} {v_way1 : List Int32} {v_bestWay : List Int32} {v_order1 : List Int32} {v_bodyKind : List Int32} {v_trace : List Int32} {v_shelf : List Int32} {v_many : List Int32} {v_items : List Int64} {v_carried : List Int64} {r : Int32} (N : Nat) {k_4 : Int32 → Int32 → Int32 → List Int32 → Option (Int32)} (hk_4 : ∀ (x1 : Int32) (x2 : Int32) (x3 : Int32) (v_placeIn : List Int32) (H : Heap) (locs : List Loc) (ls : Array Slot), k_4 x1 x2 x3 v_placeIn = some r → va_P D mm_cl (wd_X9 cI cL cS cH a v_keptMany v_done v_rowsOf v_columnsOf v_folded v_wronged v_tapeMany v_textMany v_base v_at v_ends v_fault v_opened v_bentMany v_bentWrong v_moreWorn v_planned v_allWrong v_allWorn v_z v_wishedField v_isFound v_bestWrong v_bestWorn v_bestMany v_soughtBy v_sought v_soughtAt v_foundMany v_foundOrder v_isKept v_imageRows v_imageColumns v_imageFolded v_imageWronged v_bodies v_ran v_ownKind v_ownNumber v_limit v_changeWas v_changeIs v_shapeRows v_shapeColumns v_row v_column v_below v_face v_worn v_lastBend v_tape v_text v_names v_bends v_high v_to v_pileSize v_planLine v_planWay v_way1 v_bestWay v_order1 v_placeIn v_bodyKind v_trace v_shelf v_many v_items v_carried) H → va_D A (wd_X9 cI cL cS cH a v_keptMany v_done v_rowsOf v_columnsOf v_folded v_wronged v_tapeMany v_textMany v_base v_at v_ends v_fault v_opened v_bentMany v_bentWrong v_moreWorn v_planned v_allWrong v_allWorn v_z v_wishedField v_isFound v_bestWrong v_bestWorn v_bestMany v_soughtBy v_sought v_soughtAt v_foundMany v_foundOrder v_isKept v_imageRows v_imageColumns v_imageFolded v_imageWronged v_bodies v_ran v_ownKind v_ownNumber v_limit v_changeWas v_changeIs v_shapeRows v_shapeColumns v_row v_column v_below v_face v_worn v_lastBend v_tape v_text v_names v_bends v_high v_to v_pileSize v_planLine v_planWay v_way1 v_bestWay v_order1 v_placeIn v_bodyKind v_trace v_shelf v_many v_items v_carried) → va_S A s.heap H locs → lv_has ls 5 [(0, .ref (a 0)), (1, .int x1), (2, .int x2), (3, .int x3)] → W p l e (mm_rr d) s m args below meth c H locs 0 0 (mm_Z below D A (wd_X9 cI cL cS cH a v_keptMany v_done v_rowsOf v_columnsOf v_folded v_wronged v_tapeMany v_textMany v_base v_at v_ends v_fault v_opened v_bentMany v_bentWrong v_moreWorn v_planned v_allWrong v_allWorn v_z v_wishedField v_isFound v_bestWrong v_bestWorn v_bestMany v_soughtBy v_sought v_soughtAt v_foundMany v_foundOrder v_isKept v_imageRows v_imageColumns v_imageFolded v_imageWronged v_bodies v_ran v_ownKind v_ownNumber v_limit v_changeWas v_changeIs v_shapeRows v_shapeColumns v_row v_column v_below v_face v_worn v_lastBend v_tape v_text v_names v_bends v_high v_to v_pileSize v_planLine v_planWay v_way1 v_bestWay v_order1 v_placeIn v_bodyKind v_trace v_shelf v_many v_items v_carried) (some (.int r)) args s) (F0 m 4 ls [])) : ∀ (x1 : Int32) (x3 : Int32) (s0 : Int32) (s1 : Int32) (v_placeIn : List Int32) (H : Heap) (locs : List Loc) (ls : Array Slot), fX9_bendsOf_59 N k_4 x1 x3 s0 s1 v_placeIn = some r → va_P D mm_cl (wd_X9 cI cL cS cH a v_keptMany v_done v_rowsOf v_columnsOf v_folded v_wronged v_tapeMany v_textMany v_base v_at v_ends v_fault v_opened v_bentMany v_bentWrong v_moreWorn v_planned v_allWrong v_allWorn v_z v_wishedField v_isFound v_bestWrong v_bestWorn v_bestMany v_soughtBy v_sought v_soughtAt v_foundMany v_foundOrder v_isKept v_imageRows v_imageColumns v_imageFolded v_imageWronged v_bodies v_ran v_ownKind v_ownNumber v_limit v_changeWas v_changeIs v_shapeRows v_shapeColumns v_row v_column v_below v_face v_worn v_lastBend v_tape v_text v_names v_bends v_high v_to v_pileSize v_planLine v_planWay v_way1 v_bestWay v_order1 v_placeIn v_bodyKind v_trace v_shelf v_many v_items v_carried) H → va_D A (wd_X9 cI cL cS cH a v_keptMany v_done v_rowsOf v_columnsOf v_folded v_wronged v_tapeMany v_textMany v_base v_at v_ends v_fault v_opened v_bentMany v_bentWrong v_moreWorn v_planned v_allWrong v_allWorn v_z v_wishedField v_isFound v_bestWrong v_bestWorn v_bestMany v_soughtBy v_sought v_soughtAt v_foundMany v_foundOrder v_isKept v_imageRows v_imageColumns v_imageFolded v_imageWronged v_bodies v_ran v_ownKind v_ownNumber v_limit v_changeWas v_changeIs v_shapeRows v_shapeColumns v_row v_column v_below v_face v_worn v_lastBend v_tape v_text v_names v_bends v_high v_to v_pileSize v_planLine v_planWay v_way1 v_bestWay v_order1 v_placeIn v_bodyKind v_trace v_shelf v_many v_items v_carried) → va_S A s.heap H locs → lv_has ls 5 [(0, .ref (a 0)), (1, .int x1), (3, .int x3)] → W p l e (mm_rr d) s m args below meth c H locs 0 0 (mm_Z below D A (wd_X9 cI cL cS cH a v_keptMany v_done v_rowsOf v_columnsOf v_folded v_wronged v_tapeMany v_textMany v_base v_at v_ends v_fault v_opened v_bentMany v_bentWrong v_moreWorn v_planned v_allWrong v_allWorn v_z v_wishedField v_isFound v_bestWrong v_bestWorn v_bestMany v_soughtBy v_sought v_soughtAt v_foundMany v_foundOrder v_isKept v_imageRows v_imageColumns v_imageFolded v_imageWronged v_bodies v_ran v_ownKind v_ownNumber v_limit v_changeWas v_changeIs v_shapeRows v_shapeColumns v_row v_column v_below v_face v_worn v_lastBend v_tape v_text v_names v_bends v_high v_to v_pileSize v_planLine v_planWay v_way1 v_bestWay v_order1 v_placeIn v_bodyKind v_trace v_shelf v_many v_items v_carried) (some (.int r)) args s) (F0 m 59 ls [.int s0, .int s1]) := by
  obtain ⟨hx, hb, hml, hown, hts, hr, hlocks, hK, hSt⟩ := id C0
  intro x1 x3 s0 s1 v_placeIn H locs ls hf hP hD hS hl
  unfold fX9_bendsOf_59 at hf
  refine lv_ior hx hb dX9_bendsOf_59 ?_
  refine lv_topi (fun y_8 ey_8 => ?_)
  have hf := mm_nms hf ey_8
  refine lv_istore_n (lv' := [(2, .int y_8), (0, .ref (a 0)), (1, .int x1), (3, .int x3)]) hx hb dX9_bendsOf_60 rfl hl (by decide) rfl (fun ls hl => ?_)
  obtain ⟨y_9, ey_9⟩ : ∃ z : Int32, z = x3 + (1 : Int32) := ⟨_, rfl⟩
  have hf := mm_nms hf ey_9
  refine lv_iinc (v := y_9) (lv' := [(3, .int y_9), (2, .int y_8), (0, .ref (a 0)), (1, .int x1)]) hx hb dX9_bendsOf_61 hl (k := 3) rfl (by rw [ey_9]; rfl) (by decide) rfl (fun ls hl => ?_)
  refine lv_goto (tgt := 4) hx hb dX9_bendsOf_64 (by decide) ?_
  exact hk_4 _ _ _ _ H locs ls hf hP hD hS (lv_sub hl [2, 3, 1, 0] rfl)

def fX9_bendsOf_49 (N : Nat) (k_4 : Int32 → Int32 → Int32 → List Int32 → Option (Int32)) (x1 : Int32) (x3 : Int32) (s0 : Int32) (s1 : Int32) (s2 : Int32) (v_placeIn : List Int32) : Option (Int32) :=
    if s1 = s0 then
    (fX9_bendsOf_59 N k_4 x1 x3 ((1 : Int32) <<< (x3 &&& 31)) s2 v_placeIn)
    else (fX9_bendsOf_59 N k_4 x1 x3 (0 : Int32) s2 v_placeIn)

set_option maxHeartbeats 4000000 in
set_option maxRecDepth 100000 in
theorem tX9_bendsOf_49 {p : Program} {l : Launch} {e : Env} {s : State} {m : MethodId} {args : Array Value} {below : List Frame} {meth : Method} {c : Code} {D : va_G} {cI cL cS cH : ClassId} {A : Nat → Prop} {d : Nat} {a : Nat → Nat} (hd : 1 ≤ d) (C0 : mm_Cx p s m args meth c RX9 cX9_bendsOf 5 (some .int) D (mm_T cI cL cS cH) A) (hA : ∀ q, s.heap.size ≤ q → A q) {v_keptMany : Int32} {v_done : Int32} {v_rowsOf : Int32} {v_columnsOf : Int32} {v_folded : Int32} {v_wronged : Int32} {v_tapeMany : Int32} {v_textMany : Int32} {v_base : Int32} {v_at : Int32} {v_ends : Int32} {v_fault : Int32} {v_opened : Int32} {v_bentMany : Int32} {v_bentWrong : Int32} {v_moreWorn : Int32} {v_planned : Int32} {v_allWrong : Int32} {v_allWorn : Int32} {v_z : Int32} {v_wishedField : Int32} {v_isFound : Bool} {v_bestWrong : Int32} {v_bestWorn : Int32} {v_bestMany : Int32} {v_soughtBy : Int32} {v_sought : Int32} {v_soughtAt : Int32} {v_foundMany : Int32} {v_foundOrder : Int32} {v_isKept : Bool} {v_imageRows : Int32} {v_imageColumns : Int32} {v_imageFolded : Int32} {v_imageWronged : Int32} {v_bodies : Int32} {v_ran : Int32} {v_ownKind : Int32} {v_ownNumber : Int32} {v_limit : List Int32} {v_changeWas : List Int32} {v_changeIs : List Int32} {v_shapeRows : List Int32} {v_shapeColumns : List Int32} {v_row : List Int32} {v_column : List Int32} {v_below : List Int32} {v_face : List Int32} {v_worn : List Int32} {v_lastBend : List Int32} {v_tape : List Int32} {v_text : List Int32} {v_names : List Int32} {v_bends : List Int32} {v_high : List Int32} {v_to : List Int32} {v_pileSize : List Int32} {v_planLine : List Int32} {v_planWay : List Int32} {v_way1 : List Int32} {v_bestWay : List Int32} {v_order1 : List Int32} {v_bodyKind : List Int32} {v_trace : List Int32} {v_shelf : List Int32} {v_many : List Int32} {v_items : List Int64} {v_carried : List Int64} {r : Int32} (N : Nat) {k_4 : Int32 → Int32 → Int32 → List Int32 → Option (Int32)} (hk_4 : ∀ (x1 : Int32) (x2 : Int32) (x3 : Int32) (v_placeIn : List Int32) (H : Heap) (locs : List Loc) (ls : Array Slot), k_4 x1 x2 x3 v_placeIn = some r → va_P D mm_cl (wd_X9 cI cL cS cH a v_keptMany v_done v_rowsOf v_columnsOf v_folded v_wronged v_tapeMany v_textMany v_base v_at v_ends v_fault v_opened v_bentMany v_bentWrong v_moreWorn v_planned v_allWrong v_allWorn v_z v_wishedField v_isFound v_bestWrong v_bestWorn v_bestMany v_soughtBy v_sought v_soughtAt v_foundMany v_foundOrder v_isKept v_imageRows v_imageColumns v_imageFolded v_imageWronged v_bodies v_ran v_ownKind v_ownNumber v_limit v_changeWas v_changeIs v_shapeRows v_shapeColumns v_row v_column v_below v_face v_worn v_lastBend v_tape v_text v_names v_bends v_high v_to v_pileSize v_planLine v_planWay v_way1 v_bestWay v_order1 v_placeIn v_bodyKind v_trace v_shelf v_many v_items v_carried) H → va_D A (wd_X9 cI cL cS cH a v_keptMany v_done v_rowsOf v_columnsOf v_folded v_wronged v_tapeMany v_textMany v_base v_at v_ends v_fault v_opened v_bentMany v_bentWrong v_moreWorn v_planned v_allWrong v_allWorn v_z v_wishedField v_isFound v_bestWrong v_bestWorn v_bestMany v_soughtBy v_sought v_soughtAt v_foundMany v_foundOrder v_isKept v_imageRows v_imageColumns v_imageFolded v_imageWronged v_bodies v_ran v_ownKind v_ownNumber v_limit v_changeWas v_changeIs v_shapeRows v_shapeColumns v_row v_column v_below v_face v_worn v_lastBend v_tape v_text v_names v_bends v_high v_to v_pileSize v_planLine v_planWay v_way1 v_bestWay v_order1 v_placeIn v_bodyKind v_trace v_shelf v_many v_items v_carried) → va_S A s.heap H locs → lv_has ls 5 [(0, .ref (a 0)), (1, .int x1), (2, .int x2), (3, .int x3)] → W p l e (mm_rr d) s m args below meth c H locs 0 0 (mm_Z below D A (wd_X9 cI cL cS cH a v_keptMany v_done v_rowsOf v_columnsOf v_folded v_wronged v_tapeMany v_textMany v_base v_at v_ends v_fault v_opened v_bentMany v_bentWrong v_moreWorn v_planned v_allWrong v_allWorn v_z v_wishedField v_isFound v_bestWrong v_bestWorn v_bestMany v_soughtBy v_sought v_soughtAt v_foundMany v_foundOrder v_isKept v_imageRows v_imageColumns v_imageFolded v_imageWronged v_bodies v_ran v_ownKind v_ownNumber v_limit v_changeWas v_changeIs v_shapeRows v_shapeColumns v_row v_column v_below v_face v_worn v_lastBend v_tape v_text v_names v_bends v_high v_to v_pileSize v_planLine v_planWay v_way1 v_bestWay v_order1 v_placeIn v_bodyKind v_trace v_shelf v_many v_items v_carried) (some (.int r)) args s) (F0 m 4 ls [])) : ∀ (x1 : Int32) (x3 : Int32) (s0 : Int32) (s1 : Int32) (s2 : Int32) (v_placeIn : List Int32) (H : Heap) (locs : List Loc) (ls : Array Slot), fX9_bendsOf_49 N k_4 x1 x3 s0 s1 s2 v_placeIn = some r → va_P D mm_cl (wd_X9 cI cL cS cH a v_keptMany v_done v_rowsOf v_columnsOf v_folded v_wronged v_tapeMany v_textMany v_base v_at v_ends v_fault v_opened v_bentMany v_bentWrong v_moreWorn v_planned v_allWrong v_allWorn v_z v_wishedField v_isFound v_bestWrong v_bestWorn v_bestMany v_soughtBy v_sought v_soughtAt v_foundMany v_foundOrder v_isKept v_imageRows v_imageColumns v_imageFolded v_imageWronged v_bodies v_ran v_ownKind v_ownNumber v_limit v_changeWas v_changeIs v_shapeRows v_shapeColumns v_row v_column v_below v_face v_worn v_lastBend v_tape v_text v_names v_bends v_high v_to v_pileSize v_planLine v_planWay v_way1 v_bestWay v_order1 v_placeIn v_bodyKind v_trace v_shelf v_many v_items v_carried) H → va_D A (wd_X9 cI cL cS cH a v_keptMany v_done v_rowsOf v_columnsOf v_folded v_wronged v_tapeMany v_textMany v_base v_at v_ends v_fault v_opened v_bentMany v_bentWrong v_moreWorn v_planned v_allWrong v_allWorn v_z v_wishedField v_isFound v_bestWrong v_bestWorn v_bestMany v_soughtBy v_sought v_soughtAt v_foundMany v_foundOrder v_isKept v_imageRows v_imageColumns v_imageFolded v_imageWronged v_bodies v_ran v_ownKind v_ownNumber v_limit v_changeWas v_changeIs v_shapeRows v_shapeColumns v_row v_column v_below v_face v_worn v_lastBend v_tape v_text v_names v_bends v_high v_to v_pileSize v_planLine v_planWay v_way1 v_bestWay v_order1 v_placeIn v_bodyKind v_trace v_shelf v_many v_items v_carried) → va_S A s.heap H locs → lv_has ls 5 [(0, .ref (a 0)), (1, .int x1), (3, .int x3)] → W p l e (mm_rr d) s m args below meth c H locs 0 0 (mm_Z below D A (wd_X9 cI cL cS cH a v_keptMany v_done v_rowsOf v_columnsOf v_folded v_wronged v_tapeMany v_textMany v_base v_at v_ends v_fault v_opened v_bentMany v_bentWrong v_moreWorn v_planned v_allWrong v_allWorn v_z v_wishedField v_isFound v_bestWrong v_bestWorn v_bestMany v_soughtBy v_sought v_soughtAt v_foundMany v_foundOrder v_isKept v_imageRows v_imageColumns v_imageFolded v_imageWronged v_bodies v_ran v_ownKind v_ownNumber v_limit v_changeWas v_changeIs v_shapeRows v_shapeColumns v_row v_column v_below v_face v_worn v_lastBend v_tape v_text v_names v_bends v_high v_to v_pileSize v_planLine v_planWay v_way1 v_bestWay v_order1 v_placeIn v_bodyKind v_trace v_shelf v_many v_items v_carried) (some (.int r)) args s) (F0 m 49 ls [.int s0, .int s1, .int s2]) := by
  obtain ⟨hx, hb, hml, hown, hts, hr, hlocks, hK, hSt⟩ := id C0
  intro x1 x3 s0 s1 s2 v_placeIn H locs ls hf hP hD hS hl
  unfold fX9_bendsOf_49 at hf
  refine lv_icmp_ne (tgt := 58) hx hb dX9_bendsOf_49 (by decide) (fun c_7 => ?_) (fun c_7 => ?_)
  · have hf := mm_in hf c_7
    refine lv_iconst (v := 0) hx hb dX9_bendsOf_58 (by decide) ?_
    exact tX9_bendsOf_59 hd C0 hA N hk_4 _ _ _ _ _ H locs ls hf hP hD hS (lv_sub hl [0, 1, 2] rfl)
  · have hf := mm_ip hf c_7
    refine lv_iconst (v := 1) hx hb dX9_bendsOf_52 (by decide) ?_
    refine lv_iload_n hx hb dX9_bendsOf_53 rfl (lv_at hl 2 rfl) ?_
    refine lv_ishl hx hb dX9_bendsOf_54 ?_
    refine lv_goto (tgt := 59) hx hb dX9_bendsOf_55 (by decide) ?_
    exact tX9_bendsOf_59 hd C0 hA N hk_4 _ _ _ _ _ H locs ls hf hP hD hS (lv_sub hl [0, 1, 2] rfl)

def fX9_bendsOf_33 (N : Nat) (k_4 : Int32 → Int32 → Int32 → List Int32 → Option (Int32)) (x1 : Int32) (x2 : Int32) (x3 : Int32) (s0 : Int32) (v_placeIn : List Int32) : Option (Int32) :=
    mm_ck (mm_nz (2 : Int32)) (if (mm_rem x3 (2 : Int32)) = 0 then
    (fX9_bendsOf_49 N k_4 x1 x3 (1 : Int32) s0 x2 v_placeIn)
    else (fX9_bendsOf_49 N k_4 x1 x3 (0 : Int32) s0 x2 v_placeIn))

set_option maxHeartbeats 4000000 in
set_option maxRecDepth 100000 in
theorem tX9_bendsOf_33 {p : Program} {l : Launch} {e : Env} {s : State} {m : MethodId} {args : Array Value} {below : List Frame} {meth : Method} {c : Code} {D : va_G} {cI cL cS cH : ClassId} {A : Nat → Prop} {d : Nat} {a : Nat → Nat} (hd : 1 ≤ d) (C0 : mm_Cx p s m args meth c RX9 cX9_bendsOf 5 (some .int) D (mm_T cI cL cS cH) A) (hA : ∀ q, s.heap.size ≤ q → A q) {v_keptMany : Int32} {v_done : Int32} {v_rowsOf : Int32} {v_columnsOf : Int32} {v_folded : Int32} {v_wronged : Int32} {v_tapeMany : Int32} {v_textMany : Int32} {v_base : Int32} {v_at : Int32} {v_ends : Int32} {v_fault : Int32} {v_opened : Int32} {v_bentMany : Int32} {v_bentWrong : Int32} {v_moreWorn : Int32} {v_planned : Int32} {v_allWrong : Int32} {v_allWorn : Int32} {v_z : Int32} {v_wishedField : Int32} {v_isFound : Bool} {v_bestWrong : Int32} {v_bestWorn : Int32} {v_bestMany : Int32} {v_soughtBy : Int32} {v_sought : Int32} {v_soughtAt : Int32} {v_foundMany : Int32} {v_foundOrder : Int32} {v_isKept : Bool} {v_imageRows : Int32} {v_imageColumns : Int32} {v_imageFolded : Int32} {v_imageWronged : Int32} {v_bodies : Int32} {v_ran : Int32} {v_ownKind : Int32} {v_ownNumber : Int32} {v_limit : List Int32} {v_changeWas : List Int32} {v_changeIs : List Int32} {v_shapeRows : List Int32} {v_shapeColumns : List Int32} {v_row : List Int32} {v_column : List Int32} {v_below : List Int32} {v_face : List Int32} {v_worn : List Int32} {v_lastBend : List Int32} {v_tape : List Int32} {v_text : List Int32} {v_names : List Int32} {v_bends : List Int32} {v_high : List Int32} {v_to : List Int32} {v_pileSize : List Int32} {v_planLine : List Int32} {v_planWay : List Int32} {v_way1 : List Int32} {v_bestWay : List Int32} {v_order1 : List Int32} {v_bodyKind : List Int32} {v_trace : List Int32} {v_shelf : List Int32} {v_many : List Int32} {v_items : List Int64} {v_carried : List Int64} {r : Int32} (N : Nat) {k_4 : Int32 → Int32 → Int32 → List Int32 → Option (Int32)} (hk_4 : ∀ (x1 : Int32) (x2 : Int32) (x3 : Int32) (v_placeIn : List Int32) (H : Heap) (locs : List Loc) (ls : Array Slot), k_4 x1 x2 x3 v_placeIn = some r → va_P D mm_cl (wd_X9 cI cL cS cH a v_keptMany v_done v_rowsOf v_columnsOf v_folded v_wronged v_tapeMany v_textMany v_base v_at v_ends v_fault v_opened v_bentMany v_bentWrong v_moreWorn v_planned v_allWrong v_allWorn v_z v_wishedField v_isFound v_bestWrong v_bestWorn v_bestMany v_soughtBy v_sought v_soughtAt v_foundMany v_foundOrder v_isKept v_imageRows v_imageColumns v_imageFolded v_imageWronged v_bodies v_ran v_ownKind v_ownNumber v_limit v_changeWas v_changeIs v_shapeRows v_shapeColumns v_row v_column v_below v_face v_worn v_lastBend v_tape v_text v_names v_bends v_high v_to v_pileSize v_planLine v_planWay v_way1 v_bestWay v_order1 v_placeIn v_bodyKind v_trace v_shelf v_many v_items v_carried) H → va_D A (wd_X9 cI cL cS cH a v_keptMany v_done v_rowsOf v_columnsOf v_folded v_wronged v_tapeMany v_textMany v_base v_at v_ends v_fault v_opened v_bentMany v_bentWrong v_moreWorn v_planned v_allWrong v_allWorn v_z v_wishedField v_isFound v_bestWrong v_bestWorn v_bestMany v_soughtBy v_sought v_soughtAt v_foundMany v_foundOrder v_isKept v_imageRows v_imageColumns v_imageFolded v_imageWronged v_bodies v_ran v_ownKind v_ownNumber v_limit v_changeWas v_changeIs v_shapeRows v_shapeColumns v_row v_column v_below v_face v_worn v_lastBend v_tape v_text v_names v_bends v_high v_to v_pileSize v_planLine v_planWay v_way1 v_bestWay v_order1 v_placeIn v_bodyKind v_trace v_shelf v_many v_items v_carried) → va_S A s.heap H locs → lv_has ls 5 [(0, .ref (a 0)), (1, .int x1), (2, .int x2), (3, .int x3)] → W p l e (mm_rr d) s m args below meth c H locs 0 0 (mm_Z below D A (wd_X9 cI cL cS cH a v_keptMany v_done v_rowsOf v_columnsOf v_folded v_wronged v_tapeMany v_textMany v_base v_at v_ends v_fault v_opened v_bentMany v_bentWrong v_moreWorn v_planned v_allWrong v_allWorn v_z v_wishedField v_isFound v_bestWrong v_bestWorn v_bestMany v_soughtBy v_sought v_soughtAt v_foundMany v_foundOrder v_isKept v_imageRows v_imageColumns v_imageFolded v_imageWronged v_bodies v_ran v_ownKind v_ownNumber v_limit v_changeWas v_changeIs v_shapeRows v_shapeColumns v_row v_column v_below v_face v_worn v_lastBend v_tape v_text v_names v_bends v_high v_to v_pileSize v_planLine v_planWay v_way1 v_bestWay v_order1 v_placeIn v_bodyKind v_trace v_shelf v_many v_items v_carried) (some (.int r)) args s) (F0 m 4 ls [])) : ∀ (x1 : Int32) (x2 : Int32) (x3 : Int32) (s0 : Int32) (v_placeIn : List Int32) (H : Heap) (locs : List Loc) (ls : Array Slot), fX9_bendsOf_33 N k_4 x1 x2 x3 s0 v_placeIn = some r → va_P D mm_cl (wd_X9 cI cL cS cH a v_keptMany v_done v_rowsOf v_columnsOf v_folded v_wronged v_tapeMany v_textMany v_base v_at v_ends v_fault v_opened v_bentMany v_bentWrong v_moreWorn v_planned v_allWrong v_allWorn v_z v_wishedField v_isFound v_bestWrong v_bestWorn v_bestMany v_soughtBy v_sought v_soughtAt v_foundMany v_foundOrder v_isKept v_imageRows v_imageColumns v_imageFolded v_imageWronged v_bodies v_ran v_ownKind v_ownNumber v_limit v_changeWas v_changeIs v_shapeRows v_shapeColumns v_row v_column v_below v_face v_worn v_lastBend v_tape v_text v_names v_bends v_high v_to v_pileSize v_planLine v_planWay v_way1 v_bestWay v_order1 v_placeIn v_bodyKind v_trace v_shelf v_many v_items v_carried) H → va_D A (wd_X9 cI cL cS cH a v_keptMany v_done v_rowsOf v_columnsOf v_folded v_wronged v_tapeMany v_textMany v_base v_at v_ends v_fault v_opened v_bentMany v_bentWrong v_moreWorn v_planned v_allWrong v_allWorn v_z v_wishedField v_isFound v_bestWrong v_bestWorn v_bestMany v_soughtBy v_sought v_soughtAt v_foundMany v_foundOrder v_isKept v_imageRows v_imageColumns v_imageFolded v_imageWronged v_bodies v_ran v_ownKind v_ownNumber v_limit v_changeWas v_changeIs v_shapeRows v_shapeColumns v_row v_column v_below v_face v_worn v_lastBend v_tape v_text v_names v_bends v_high v_to v_pileSize v_planLine v_planWay v_way1 v_bestWay v_order1 v_placeIn v_bodyKind v_trace v_shelf v_many v_items v_carried) → va_S A s.heap H locs → lv_has ls 5 [(0, .ref (a 0)), (1, .int x1), (2, .int x2), (3, .int x3)] → W p l e (mm_rr d) s m args below meth c H locs 0 0 (mm_Z below D A (wd_X9 cI cL cS cH a v_keptMany v_done v_rowsOf v_columnsOf v_folded v_wronged v_tapeMany v_textMany v_base v_at v_ends v_fault v_opened v_bentMany v_bentWrong v_moreWorn v_planned v_allWrong v_allWorn v_z v_wishedField v_isFound v_bestWrong v_bestWorn v_bestMany v_soughtBy v_sought v_soughtAt v_foundMany v_foundOrder v_isKept v_imageRows v_imageColumns v_imageFolded v_imageWronged v_bodies v_ran v_ownKind v_ownNumber v_limit v_changeWas v_changeIs v_shapeRows v_shapeColumns v_row v_column v_below v_face v_worn v_lastBend v_tape v_text v_names v_bends v_high v_to v_pileSize v_planLine v_planWay v_way1 v_bestWay v_order1 v_placeIn v_bodyKind v_trace v_shelf v_many v_items v_carried) (some (.int r)) args s) (F0 m 33 ls [.int s0]) := by
  obtain ⟨hx, hb, hml, hown, hts, hr, hlocks, hK, hSt⟩ := id C0
  intro x1 x2 x3 s0 v_placeIn H locs ls hf hP hD hS hl
  unfold fX9_bendsOf_33 at hf
  refine lv_istore (lv' := [(4, .int s0), (0, .ref (a 0)), (1, .int x1), (2, .int x2), (3, .int x3)]) hx hb dX9_bendsOf_33 hl (by decide) rfl (fun ls hl => ?_)
  refine lv_iload_n hx hb dX9_bendsOf_35 rfl (lv_at hl 3 rfl) ?_
  refine lv_iload hx hb dX9_bendsOf_36 (lv_at hl 0 rfl) ?_
  refine lv_iload_n hx hb dX9_bendsOf_38 rfl (lv_at hl 4 rfl) ?_
  refine lv_iconst (v := 2) hx hb dX9_bendsOf_39 (by decide) ?_
  obtain ⟨h_5, hf⟩ := mm_cks hf
  refine lv_irem hx hb dX9_bendsOf_40 (mm_nzs h_5) ?_
  refine lv_if_ne (tgt := 48) hx hb dX9_bendsOf_41 (by decide) (fun c_6 => ?_) (fun c_6 => ?_)
  · have hf := mm_in hf c_6
    refine lv_iconst (v := 0) hx hb dX9_bendsOf_48 (by decide) ?_
    exact tX9_bendsOf_49 hd C0 hA N hk_4 _ _ _ _ _ _ H locs ls hf hP hD hS (lv_sub hl [1, 2, 4] rfl)
  · have hf := mm_ip hf c_6
    refine lv_iconst (v := 1) hx hb dX9_bendsOf_44 (by decide) ?_
    refine lv_goto (tgt := 49) hx hb dX9_bendsOf_45 (by decide) ?_
    exact tX9_bendsOf_49 hd C0 hA N hk_4 _ _ _ _ _ _ H locs ls hf hP hD hS (lv_sub hl [1, 2, 4] rfl)

def fX9_bendsOf_4 (N : Nat)  : Nat → Int32 → Int32 → Int32 → List Int32 → Option (Int32)
  | 0 => fun _ _ _ _ => none
  | n + 1 => fun x1 x2 x3 v_placeIn =>
    if x1 ≤ (x3 + (1 : Int32)) then
    (some (x2))
    else (mm_ck (mm_inb x3 v_placeIn.length) (mm_ck (mm_inb (x3 + (1 : Int32)) v_placeIn.length) (if (mm_ig v_placeIn (x3 + (1 : Int32))) ≤ (mm_ig v_placeIn x3) then
    (fX9_bendsOf_33 N (fX9_bendsOf_4 N n) x1 x2 x3 (0 : Int32) v_placeIn)
    else (fX9_bendsOf_33 N (fX9_bendsOf_4 N n) x1 x2 x3 (1 : Int32) v_placeIn))))

set_option maxHeartbeats 4000000 in
set_option maxRecDepth 100000 in
theorem tX9_bendsOf_4 {p : Program} {l : Launch} {e : Env} {s : State} {m : MethodId} {args : Array Value} {below : List Frame} {meth : Method} {c : Code} {D : va_G} {cI cL cS cH : ClassId} {A : Nat → Prop} {d : Nat} {a : Nat → Nat} (hd : 1 ≤ d) (C0 : mm_Cx p s m args meth c RX9 cX9_bendsOf 5 (some .int) D (mm_T cI cL cS cH) A) (hA : ∀ q, s.heap.size ≤ q → A q) {v_keptMany : Int32} {v_done : Int32} {v_rowsOf : Int32} {v_columnsOf : Int32} {v_folded : Int32} {v_wronged : Int32} {v_tapeMany : Int32} {v_textMany : Int32} {v_base : Int32} {v_at : Int32} {v_ends : Int32} {v_fault : Int32} {v_opened : Int32} {v_bentMany : Int32} {v_bentWrong : Int32} {v_moreWorn : Int32} {v_planned : Int32} {v_allWrong : Int32} {v_allWorn : Int32} {v_z : Int32} {v_wishedField : Int32} {v_isFound : Bool} {v_bestWrong : Int32} {v_bestWorn : Int32} {v_bestMany : Int32} {v_soughtBy : Int32} {v_sought : Int32} {v_soughtAt : Int32} {v_foundMany : Int32} {v_foundOrder : Int32} {v_isKept : Bool} {v_imageRows : Int32} {v_imageColumns : Int32} {v_imageFolded : Int32} {v_imageWronged : Int32} {v_bodies : Int32} {v_ran : Int32} {v_ownKind : Int32} {v_ownNumber : Int32} {v_limit : List Int32} {v_changeWas : List Int32} {v_changeIs : List Int32} {v_shapeRows : List Int32} {v_shapeColumns : List Int32} {v_row : List Int32} {v_column : List Int32} {v_below : List Int32} {v_face : List Int32} {v_worn : List Int32} {v_lastBend : List Int32} {v_tape : List Int32} {v_text : List Int32} {v_names : List Int32} {v_bends : List Int32} {v_high : List Int32} {v_to : List Int32} {v_pileSize : List Int32} {v_planLine : List Int32} {v_planWay : List Int32} {v_way1 : List Int32} {v_bestWay : List Int32} {v_order1 : List Int32} {v_bodyKind : List Int32} {v_trace : List Int32} {v_shelf : List Int32} {v_many : List Int32} {v_items : List Int64} {v_carried : List Int64} {r : Int32} (N : Nat)  : ∀ (n : Nat), ∀ (x1 : Int32) (x2 : Int32) (x3 : Int32) (v_placeIn : List Int32) (H : Heap) (locs : List Loc) (ls : Array Slot), fX9_bendsOf_4 N n x1 x2 x3 v_placeIn = some r → va_P D mm_cl (wd_X9 cI cL cS cH a v_keptMany v_done v_rowsOf v_columnsOf v_folded v_wronged v_tapeMany v_textMany v_base v_at v_ends v_fault v_opened v_bentMany v_bentWrong v_moreWorn v_planned v_allWrong v_allWorn v_z v_wishedField v_isFound v_bestWrong v_bestWorn v_bestMany v_soughtBy v_sought v_soughtAt v_foundMany v_foundOrder v_isKept v_imageRows v_imageColumns v_imageFolded v_imageWronged v_bodies v_ran v_ownKind v_ownNumber v_limit v_changeWas v_changeIs v_shapeRows v_shapeColumns v_row v_column v_below v_face v_worn v_lastBend v_tape v_text v_names v_bends v_high v_to v_pileSize v_planLine v_planWay v_way1 v_bestWay v_order1 v_placeIn v_bodyKind v_trace v_shelf v_many v_items v_carried) H → va_D A (wd_X9 cI cL cS cH a v_keptMany v_done v_rowsOf v_columnsOf v_folded v_wronged v_tapeMany v_textMany v_base v_at v_ends v_fault v_opened v_bentMany v_bentWrong v_moreWorn v_planned v_allWrong v_allWorn v_z v_wishedField v_isFound v_bestWrong v_bestWorn v_bestMany v_soughtBy v_sought v_soughtAt v_foundMany v_foundOrder v_isKept v_imageRows v_imageColumns v_imageFolded v_imageWronged v_bodies v_ran v_ownKind v_ownNumber v_limit v_changeWas v_changeIs v_shapeRows v_shapeColumns v_row v_column v_below v_face v_worn v_lastBend v_tape v_text v_names v_bends v_high v_to v_pileSize v_planLine v_planWay v_way1 v_bestWay v_order1 v_placeIn v_bodyKind v_trace v_shelf v_many v_items v_carried) → va_S A s.heap H locs → lv_has ls 5 [(0, .ref (a 0)), (1, .int x1), (2, .int x2), (3, .int x3)] → W p l e (mm_rr d) s m args below meth c H locs 0 0 (mm_Z below D A (wd_X9 cI cL cS cH a v_keptMany v_done v_rowsOf v_columnsOf v_folded v_wronged v_tapeMany v_textMany v_base v_at v_ends v_fault v_opened v_bentMany v_bentWrong v_moreWorn v_planned v_allWrong v_allWorn v_z v_wishedField v_isFound v_bestWrong v_bestWorn v_bestMany v_soughtBy v_sought v_soughtAt v_foundMany v_foundOrder v_isKept v_imageRows v_imageColumns v_imageFolded v_imageWronged v_bodies v_ran v_ownKind v_ownNumber v_limit v_changeWas v_changeIs v_shapeRows v_shapeColumns v_row v_column v_below v_face v_worn v_lastBend v_tape v_text v_names v_bends v_high v_to v_pileSize v_planLine v_planWay v_way1 v_bestWay v_order1 v_placeIn v_bodyKind v_trace v_shelf v_many v_items v_carried) (some (.int r)) args s) (F0 m 4 ls []) := by
  obtain ⟨hx, hb, hml, hown, hts, hr, hlocks, hK, hSt⟩ := id C0
  intro n
  induction n with
  | zero =>
    intro x1 x2 x3 v_placeIn H locs ls hf
    cases (show none = some _ from hf)
  | succ n ih =>
    intro x1 x2 x3 v_placeIn H locs ls hf hP hD hS hl
    unfold fX9_bendsOf_4 at hf
    refine lv_iload_n hx hb dX9_bendsOf_4 rfl (lv_at hl 3 rfl) ?_
    refine lv_iconst (v := 1) hx hb dX9_bendsOf_5 (by decide) ?_
    refine lv_iadd hx hb dX9_bendsOf_6 ?_
    refine lv_iload_n hx hb dX9_bendsOf_7 rfl (lv_at hl 1 rfl) ?_
    refine lv_icmp_ge (tgt := 67) hx hb dX9_bendsOf_8 (by decide) (fun c_1 => ?_) (fun c_1 => ?_)
    · have hf := mm_ip hf c_1
      refine lv_iload_n hx hb dX9_bendsOf_67 rfl (lv_at hl 2 rfl) ?_
      obtain rfl := mm_inj1 hf
      exact mm_iret C0 hP hD hS dX9_bendsOf_68
    · have hf := mm_in hf c_1
      refine lv_aload_n hx hb dX9_bendsOf_11 rfl (lv_at hl 0 rfl) ?_
      refine mm_get C0 hP iw_X9 0 rfl rfl 48 (by decide) fl_X9_79 rfl dX9_bendsOf_12 ?_
      refine lv_iload_n hx hb dX9_bendsOf_15 rfl (lv_at hl 3 rfl) ?_
      obtain ⟨h_2, hf⟩ := mm_cks hf
      refine mm_iald C0 hP 24 rfl h_2 dX9_bendsOf_16 ?_
      refine lv_aload_n hx hb dX9_bendsOf_17 rfl (lv_at hl 0 rfl) ?_
      refine mm_get C0 hP iw_X9 0 rfl rfl 48 (by decide) fl_X9_79 rfl dX9_bendsOf_18 ?_
      refine lv_iload_n hx hb dX9_bendsOf_21 rfl (lv_at hl 3 rfl) ?_
      refine lv_iconst (v := 1) hx hb dX9_bendsOf_22 (by decide) ?_
      refine lv_iadd hx hb dX9_bendsOf_23 ?_
      obtain ⟨h_3, hf⟩ := mm_cks hf
      refine mm_iald C0 hP 24 rfl h_3 dX9_bendsOf_24 ?_
      refine lv_icmp_ge (tgt := 32) hx hb dX9_bendsOf_25 (by decide) (fun c_4 => ?_) (fun c_4 => ?_)
      · have hf := mm_ip hf c_4
        refine lv_iconst (v := 0) hx hb dX9_bendsOf_32 (by decide) ?_
        exact tX9_bendsOf_33 hd C0 hA N ih _ _ _ _ _ H locs ls hf hP hD hS (lv_sub hl [0, 1, 2, 3] rfl)
      · have hf := mm_in hf c_4
        refine lv_iconst (v := 1) hx hb dX9_bendsOf_28 (by decide) ?_
        refine lv_goto (tgt := 33) hx hb dX9_bendsOf_29 (by decide) ?_
        exact tX9_bendsOf_33 hd C0 hA N ih _ _ _ _ _ H locs ls hf hP hD hS (lv_sub hl [0, 1, 2, 3] rfl)

def fX9_bendsOf (N : Nat) (x1 : Int32) (v_placeIn : List Int32) : Option (Int32) :=
    fX9_bendsOf_4 N N x1 (0 : Int32) (0 : Int32) v_placeIn

set_option maxHeartbeats 4000000 in
set_option maxRecDepth 100000 in
theorem ctX9_bendsOf {l : Launch} {D : va_G} {cI cL cS cH : ClassId} {a : Nat → Nat} {x1 : Int32} {v_keptMany : Int32} {v_done : Int32} {v_rowsOf : Int32} {v_columnsOf : Int32} {v_folded : Int32} {v_wronged : Int32} {v_tapeMany : Int32} {v_textMany : Int32} {v_base : Int32} {v_at : Int32} {v_ends : Int32} {v_fault : Int32} {v_opened : Int32} {v_bentMany : Int32} {v_bentWrong : Int32} {v_moreWorn : Int32} {v_planned : Int32} {v_allWrong : Int32} {v_allWorn : Int32} {v_z : Int32} {v_wishedField : Int32} {v_isFound : Bool} {v_bestWrong : Int32} {v_bestWorn : Int32} {v_bestMany : Int32} {v_soughtBy : Int32} {v_sought : Int32} {v_soughtAt : Int32} {v_foundMany : Int32} {v_foundOrder : Int32} {v_isKept : Bool} {v_imageRows : Int32} {v_imageColumns : Int32} {v_imageFolded : Int32} {v_imageWronged : Int32} {v_bodies : Int32} {v_ran : Int32} {v_ownKind : Int32} {v_ownNumber : Int32} {v_limit : List Int32} {v_changeWas : List Int32} {v_changeIs : List Int32} {v_shapeRows : List Int32} {v_shapeColumns : List Int32} {v_row : List Int32} {v_column : List Int32} {v_below : List Int32} {v_face : List Int32} {v_worn : List Int32} {v_lastBend : List Int32} {v_tape : List Int32} {v_text : List Int32} {v_names : List Int32} {v_bends : List Int32} {v_high : List Int32} {v_to : List Int32} {v_pileSize : List Int32} {v_planLine : List Int32} {v_planWay : List Int32} {v_way1 : List Int32} {v_bestWay : List Int32} {v_order1 : List Int32} {v_placeIn : List Int32} {v_bodyKind : List Int32} {v_trace : List Int32} {v_shelf : List Int32} {v_many : List Int32} {v_items : List Int64} {v_carried : List Int64} {r : Int32} {N d : Nat} (hd : 1 ≤ d) (hf : fX9_bendsOf N x1 v_placeIn = some r) : mm_Ct l yX9_bendsOf cX9_bendsOf 5 (some .int) d D (mm_T cI cL cS cH) [.ref (a 0), .int x1] (wd_X9 cI cL cS cH a v_keptMany v_done v_rowsOf v_columnsOf v_folded v_wronged v_tapeMany v_textMany v_base v_at v_ends v_fault v_opened v_bentMany v_bentWrong v_moreWorn v_planned v_allWrong v_allWorn v_z v_wishedField v_isFound v_bestWrong v_bestWorn v_bestMany v_soughtBy v_sought v_soughtAt v_foundMany v_foundOrder v_isKept v_imageRows v_imageColumns v_imageFolded v_imageWronged v_bodies v_ran v_ownKind v_ownNumber v_limit v_changeWas v_changeIs v_shapeRows v_shapeColumns v_row v_column v_below v_face v_worn v_lastBend v_tape v_text v_names v_bends v_high v_to v_pileSize v_planLine v_planWay v_way1 v_bestWay v_order1 v_placeIn v_bodyKind v_trace v_shelf v_many v_items v_carried) (wd_X9 cI cL cS cH a v_keptMany v_done v_rowsOf v_columnsOf v_folded v_wronged v_tapeMany v_textMany v_base v_at v_ends v_fault v_opened v_bentMany v_bentWrong v_moreWorn v_planned v_allWrong v_allWorn v_z v_wishedField v_isFound v_bestWrong v_bestWorn v_bestMany v_soughtBy v_sought v_soughtAt v_foundMany v_foundOrder v_isKept v_imageRows v_imageColumns v_imageFolded v_imageWronged v_bodies v_ran v_ownKind v_ownNumber v_limit v_changeWas v_changeIs v_shapeRows v_shapeColumns v_row v_column v_below v_face v_worn v_lastBend v_tape v_text v_names v_bends v_high v_to v_pileSize v_planLine v_planWay v_way1 v_bestWay v_order1 v_placeIn v_bodyKind v_trace v_shelf v_many v_items v_carried) (some (.int r)) := by
  refine mm_of (by decide) (Nat.le_of_ble_eq_true rfl) ?_
  intro p e s m args below meth c A H locs ls C0 hP hD hA hS hl
  have C0 : mm_Cx p s m args meth c RX9 cX9_bendsOf 5 (some .int) D (mm_T cI cL cS cH) A := C0
  obtain ⟨hx, hb, hml, hown, hts, hr, hlocks, hK, hSt⟩ := id C0
  have hl : lv_has ls 5 [(0, .ref (a 0)), (1, .int x1)] := hl
  unfold fX9_bendsOf at hf
  refine lv_iconst (v := 0) hx hb dX9_bendsOf_0 (by decide) ?_
  refine lv_istore_n (lv' := [(2, .int (0 : Int32)), (0, .ref (a 0)), (1, .int x1)]) hx hb dX9_bendsOf_1 rfl hl (by decide) rfl (fun ls hl => ?_)
  refine lv_iconst (v := 0) hx hb dX9_bendsOf_2 (by decide) ?_
  refine lv_istore_n (lv' := [(3, .int (0 : Int32)), (2, .int (0 : Int32)), (0, .ref (a 0)), (1, .int x1)]) hx hb dX9_bendsOf_3 rfl hl (by decide) rfl (fun ls hl => ?_)
  exact tX9_bendsOf_4 hd C0 hA N  N _ _ _ _ H locs ls hf hP hD hS (lv_sub hl [2, 3, 1, 0] rfl)

theorem dX9_bends_0 : decode cX9_bends 0 = .ok (.iload_n 1, 1) := by decide +kernel
theorem dX9_bends_1 : decode cX9_bends 1 = .ok (.invokestatic 343, 3) := by decide +kernel
theorem dX9_bends_4 : decode cX9_bends 4 = .ok (.ifCond .eq 12, 3) := by decide +kernel
theorem dX9_bends_7 : decode cX9_bends 7 = .ok (.aload_n 0, 1) := by decide +kernel
theorem dX9_bends_8 : decode cX9_bends 8 = .ok (.iload_n 1, 1) := by decide +kernel
theorem dX9_bends_9 : decode cX9_bends 9 = .ok (.iload_n 2, 1) := by decide +kernel
theorem dX9_bends_10 : decode cX9_bends 10 = .ok (.invokevirtual 346, 3) := by decide +kernel
theorem dX9_bends_13 : decode cX9_bends 13 = .ok (.ifCond .ne 5, 3) := by decide +kernel
theorem dX9_bends_16 : decode cX9_bends 16 = .ok (.iconst (-1), 1) := by decide +kernel
theorem dX9_bends_17 : decode cX9_bends 17 = .ok (.ireturn, 1) := by decide +kernel
theorem dX9_bends_18 : decode cX9_bends 18 = .ok (.aload_n 0, 1) := by decide +kernel
theorem dX9_bends_19 : decode cX9_bends 19 = .ok (.iload_n 1, 1) := by decide +kernel
theorem dX9_bends_20 : decode cX9_bends 20 = .ok (.invokevirtual 349, 3) := by decide +kernel
theorem dX9_bends_23 : decode cX9_bends 23 = .ok (.ifCond .lt 8, 3) := by decide +kernel
theorem dX9_bends_26 : decode cX9_bends 26 = .ok (.bipush (-5), 2) := by decide +kernel
theorem dX9_bends_28 : decode cX9_bends 28 = .ok (.goto 8, 3) := by decide +kernel
theorem dX9_bends_31 : decode cX9_bends 31 = .ok (.aload_n 0, 1) := by decide +kernel
theorem dX9_bends_32 : decode cX9_bends 32 = .ok (.iload_n 1, 1) := by decide +kernel
theorem dX9_bends_33 : decode cX9_bends 33 = .ok (.invokevirtual 352, 3) := by decide +kernel
theorem dX9_bends_36 : decode cX9_bends 36 = .ok (.ireturn, 1) := by decide +kernel
def fX9_bends (N : Nat) (x1 : Int32) (x2 : Int32) (v_order1 : List Int32) (v_placeIn : List Int32) : Option (Int32 × List Int32 × List Int32) :=
    mm_bd1 (fX9_isStrip N x1) (fun (r_1 : Bool) =>
    if r_1 = false then
    (some ((-1 : Int32), v_order1, v_placeIn))
    else (mm_bd3 (fX9_isOrder N x1 x2 v_order1 v_placeIn) (fun (r_4 : Bool) (w_5 : List Int32) (w_6 : List Int32) =>
    if r_4 = false then
    (some ((-1 : Int32), w_5, w_6))
    else (mm_bd1 (fX9_firstCross N x1 w_6) (fun (r_9 : Int32) =>
    if r_9 < 0 then
    (mm_bd1 (fX9_bendsOf N x1 w_6) (fun (r_12 : Int32) =>
    some (r_12, w_5, w_6)))
    else (some ((-5 : Int32), w_5, w_6)))))))

set_option maxHeartbeats 4000000 in
set_option maxRecDepth 100000 in
theorem ctX9_bends {l : Launch} {D : va_G} {cI cL cS cH : ClassId} {a : Nat → Nat} {x1 : Int32} {x2 : Int32} {v_keptMany : Int32} {v_done : Int32} {v_rowsOf : Int32} {v_columnsOf : Int32} {v_folded : Int32} {v_wronged : Int32} {v_tapeMany : Int32} {v_textMany : Int32} {v_base : Int32} {v_at : Int32} {v_ends : Int32} {v_fault : Int32} {v_opened : Int32} {v_bentMany : Int32} {v_bentWrong : Int32} {v_moreWorn : Int32} {v_planned : Int32} {v_allWrong : Int32} {v_allWorn : Int32} {v_z : Int32} {v_wishedField : Int32} {v_isFound : Bool} {v_bestWrong : Int32} {v_bestWorn : Int32} {v_bestMany : Int32} {v_soughtBy : Int32} {v_sought : Int32} {v_soughtAt : Int32} {v_foundMany : Int32} {v_foundOrder : Int32} {v_isKept : Bool} {v_imageRows : Int32} {v_imageColumns : Int32} {v_imageFolded : Int32} {v_imageWronged : Int32} {v_bodies : Int32} {v_ran : Int32} {v_ownKind : Int32} {v_ownNumber : Int32} {v_limit : List Int32} {v_changeWas : List Int32} {v_changeIs : List Int32} {v_shapeRows : List Int32} {v_shapeColumns : List Int32} {v_row : List Int32} {v_column : List Int32} {v_below : List Int32} {v_face : List Int32} {v_worn : List Int32} {v_lastBend : List Int32} {v_tape : List Int32} {v_text : List Int32} {v_names : List Int32} {v_bends : List Int32} {v_high : List Int32} {v_to : List Int32} {v_pileSize : List Int32} {v_planLine : List Int32} {v_planWay : List Int32} {v_way1 : List Int32} {v_bestWay : List Int32} {v_order1 : List Int32} {v_placeIn : List Int32} {v_bodyKind : List Int32} {v_trace : List Int32} {v_shelf : List Int32} {v_many : List Int32} {v_items : List Int64} {v_carried : List Int64} {r : Int32} {w_order1 : List Int32} {w_placeIn : List Int32} {N d : Nat} (hd : 4 ≤ d) (hf : fX9_bends N x1 x2 v_order1 v_placeIn = some (r, w_order1, w_placeIn)) : mm_Ct l yX9_bends cX9_bends 3 (some .int) d D (mm_T cI cL cS cH) [.ref (a 0), .int x1, .int x2] (wd_X9 cI cL cS cH a v_keptMany v_done v_rowsOf v_columnsOf v_folded v_wronged v_tapeMany v_textMany v_base v_at v_ends v_fault v_opened v_bentMany v_bentWrong v_moreWorn v_planned v_allWrong v_allWorn v_z v_wishedField v_isFound v_bestWrong v_bestWorn v_bestMany v_soughtBy v_sought v_soughtAt v_foundMany v_foundOrder v_isKept v_imageRows v_imageColumns v_imageFolded v_imageWronged v_bodies v_ran v_ownKind v_ownNumber v_limit v_changeWas v_changeIs v_shapeRows v_shapeColumns v_row v_column v_below v_face v_worn v_lastBend v_tape v_text v_names v_bends v_high v_to v_pileSize v_planLine v_planWay v_way1 v_bestWay v_order1 v_placeIn v_bodyKind v_trace v_shelf v_many v_items v_carried) (wd_X9 cI cL cS cH a v_keptMany v_done v_rowsOf v_columnsOf v_folded v_wronged v_tapeMany v_textMany v_base v_at v_ends v_fault v_opened v_bentMany v_bentWrong v_moreWorn v_planned v_allWrong v_allWorn v_z v_wishedField v_isFound v_bestWrong v_bestWorn v_bestMany v_soughtBy v_sought v_soughtAt v_foundMany v_foundOrder v_isKept v_imageRows v_imageColumns v_imageFolded v_imageWronged v_bodies v_ran v_ownKind v_ownNumber v_limit v_changeWas v_changeIs v_shapeRows v_shapeColumns v_row v_column v_below v_face v_worn v_lastBend v_tape v_text v_names v_bends v_high v_to v_pileSize v_planLine v_planWay v_way1 v_bestWay w_order1 w_placeIn v_bodyKind v_trace v_shelf v_many v_items v_carried) (some (.int r)) := by
  refine mm_of (by decide) (Nat.le_of_ble_eq_true rfl) ?_
  intro p e s m args below meth c A H locs ls C0 hP hD hA hS hl
  have C0 : mm_Cx p s m args meth c RX9 cX9_bends 3 (some .int) D (mm_T cI cL cS cH) A := C0
  obtain ⟨hx, hb, hml, hown, hts, hr, hlocks, hK, hSt⟩ := id C0
  have hl : lv_has ls 3 [(0, .ref (a 0)), (1, .int x1), (2, .int x2)] := hl
  unfold fX9_bends at hf
  refine lv_iload_n hx hb dX9_bends_0 rfl (lv_at hl 1 rfl) ?_
  obtain ⟨r_1, hc_2, hf⟩ := mm_bd1s hf
  refine mm_callS0 (rest := []) C0 lk_X9_343 (ctX9_isStrip (d := d - 1) (by omega) hc_2) (by omega) rfl hl.1 rfl (mm_cat rfl) dX9_bends_1 hP hD hA hS (fun H locs hP hS => ?_)
  refine W.eq (g2 := F0 m 4 ls [.int (mm_b r_1)]) rfl ?_
  refine lv_if_eq (tgt := 16) hx hb dX9_bends_4 (by decide) (fun c_3 => ?_) (fun c_3 => ?_)
  · have hf := mm_ip hf (mm_b0 c_3)
    refine lv_iconst (v := -1) hx hb dX9_bends_16 (by decide) ?_
    apply mm_sub3 hf
    exact mm_iret C0 hP hD hS dX9_bends_17
  · have hf := mm_in hf (mm_b1 c_3)
    refine lv_aload_n hx hb dX9_bends_7 rfl (lv_at hl 0 rfl) ?_
    refine lv_iload_n hx hb dX9_bends_8 rfl (lv_at hl 1 rfl) ?_
    refine lv_iload_n hx hb dX9_bends_9 rfl (lv_at hl 2 rfl) ?_
    obtain ⟨r_4, w_5, w_6, hc_7, hf⟩ := mm_bd3s hf
    refine mm_callVF (q0 := 0) (ci := 9) (rest := []) C0 lk_X9_346 (ctX9_isOrder (a := a) (d := d - 1) (by omega) hc_7) (by omega) rfl hl.1 rfl (mm_cat rfl) dX9_bends_10 hP hD hA hS rfl rfl (fun H locs hP hD hS => ?_)
    refine W.eq (g2 := F0 m 13 ls [.int (mm_b r_4)]) rfl ?_
    refine lv_if_ne (tgt := 18) hx hb dX9_bends_13 (by decide) (fun c_8 => ?_) (fun c_8 => ?_)
    · have hf := mm_in hf (mm_b1 c_8)
      refine lv_aload_n hx hb dX9_bends_18 rfl (lv_at hl 0 rfl) ?_
      refine lv_iload_n hx hb dX9_bends_19 rfl (lv_at hl 1 rfl) ?_
      obtain ⟨r_9, hc_10, hf⟩ := mm_bd1s hf
      refine mm_callVF (q0 := 0) (ci := 9) (rest := []) C0 lk_X9_349 (ctX9_firstCross (a := a) (d := d - 1) (by omega) hc_10) (by omega) rfl hl.1 rfl (mm_cat rfl) dX9_bends_20 hP hD hA hS rfl rfl (fun H locs hP hD hS => ?_)
      refine W.eq (g2 := F0 m 23 ls [.int r_9]) rfl ?_
      refine lv_if_lt (tgt := 31) hx hb dX9_bends_23 (by decide) (fun c_11 => ?_) (fun c_11 => ?_)
      · have hf := mm_ip hf c_11
        refine lv_aload_n hx hb dX9_bends_31 rfl (lv_at hl 0 rfl) ?_
        refine lv_iload_n hx hb dX9_bends_32 rfl (lv_at hl 1 rfl) ?_
        obtain ⟨r_12, hc_13, hf⟩ := mm_bd1s hf
        refine mm_callVF (q0 := 0) (ci := 9) (rest := []) C0 lk_X9_352 (ctX9_bendsOf (a := a) (d := d - 1) (by omega) hc_13) (by omega) rfl hl.1 rfl (mm_cat rfl) dX9_bends_33 hP hD hA hS rfl rfl (fun H locs hP hD hS => ?_)
        refine W.eq (g2 := F0 m 36 ls [.int r_12]) rfl ?_
        apply mm_sub3 hf
        exact mm_iret C0 hP hD hS dX9_bends_36
      · have hf := mm_in hf c_11
        refine lv_bipush (v := -5) hx hb dX9_bends_26 (by decide) ?_
        refine lv_goto (tgt := 36) hx hb dX9_bends_28 (by decide) ?_
        apply mm_sub3 hf
        exact mm_iret C0 hP hD hS dX9_bends_36
    · have hf := mm_ip hf (mm_b0 c_8)
      refine lv_iconst (v := -1) hx hb dX9_bends_16 (by decide) ?_
      apply mm_sub3 hf
      exact mm_iret C0 hP hD hS dX9_bends_17

theorem dX9_looksAt_0 : decode cX9_looksAt 0 = .ok (.aload_n 0, 1) := by decide +kernel
theorem dX9_looksAt_1 : decode cX9_looksAt 1 = .ok (.iload_n 1, 1) := by decide +kernel
theorem dX9_looksAt_2 : decode cX9_looksAt 2 = .ok (.invokevirtual 349, 3) := by decide +kernel
theorem dX9_looksAt_5 : decode cX9_looksAt 5 = .ok (.ifCond .lt 4, 3) := by decide +kernel
theorem dX9_looksAt_8 : decode cX9_looksAt 8 = .ok (.return_, 1) := by decide +kernel
theorem dX9_looksAt_9 : decode cX9_looksAt 9 = .ok (.aload_n 0, 1) := by decide +kernel
theorem dX9_looksAt_10 : decode cX9_looksAt 10 = .ok (.getfield 355, 3) := by decide +kernel
theorem dX9_looksAt_13 : decode cX9_looksAt 13 = .ok (.ifCond .eq 46, 3) := by decide +kernel
theorem dX9_looksAt_16 : decode cX9_looksAt 16 = .ok (.aload_n 0, 1) := by decide +kernel
theorem dX9_looksAt_17 : decode cX9_looksAt 17 = .ok (.getfield 355, 3) := by decide +kernel
theorem dX9_looksAt_20 : decode cX9_looksAt 20 = .ok (.iconst 1, 1) := by decide +kernel
theorem dX9_looksAt_21 : decode cX9_looksAt 21 = .ok (.if_icmp .ne 15, 3) := by decide +kernel
theorem dX9_looksAt_24 : decode cX9_looksAt 24 = .ok (.aload_n 0, 1) := by decide +kernel
theorem dX9_looksAt_25 : decode cX9_looksAt 25 = .ok (.iload_n 1, 1) := by decide +kernel
theorem dX9_looksAt_26 : decode cX9_looksAt 26 = .ok (.invokevirtual 352, 3) := by decide +kernel
theorem dX9_looksAt_29 : decode cX9_looksAt 29 = .ok (.aload_n 0, 1) := by decide +kernel
theorem dX9_looksAt_30 : decode cX9_looksAt 30 = .ok (.getfield 358, 3) := by decide +kernel
theorem dX9_looksAt_33 : decode cX9_looksAt 33 = .ok (.if_icmp .eq 26, 3) := by decide +kernel
theorem dX9_looksAt_36 : decode cX9_looksAt 36 = .ok (.aload_n 0, 1) := by decide +kernel
theorem dX9_looksAt_37 : decode cX9_looksAt 37 = .ok (.getfield 355, 3) := by decide +kernel
theorem dX9_looksAt_40 : decode cX9_looksAt 40 = .ok (.iconst 2, 1) := by decide +kernel
theorem dX9_looksAt_41 : decode cX9_looksAt 41 = .ok (.if_icmp .ne 22, 3) := by decide +kernel
theorem dX9_looksAt_44 : decode cX9_looksAt 44 = .ok (.aload_n 0, 1) := by decide +kernel
theorem dX9_looksAt_45 : decode cX9_looksAt 45 = .ok (.getfield 76, 3) := by decide +kernel
theorem dX9_looksAt_48 : decode cX9_looksAt 48 = .ok (.iload_n 1, 1) := by decide +kernel
theorem dX9_looksAt_49 : decode cX9_looksAt 49 = .ok (.iconst 1, 1) := by decide +kernel
theorem dX9_looksAt_50 : decode cX9_looksAt 50 = .ok (.isub, 1) := by decide +kernel
theorem dX9_looksAt_51 : decode cX9_looksAt 51 = .ok (.iaload, 1) := by decide +kernel
theorem dX9_looksAt_52 : decode cX9_looksAt 52 = .ok (.aload_n 0, 1) := by decide +kernel
theorem dX9_looksAt_53 : decode cX9_looksAt 53 = .ok (.getfield 358, 3) := by decide +kernel
theorem dX9_looksAt_56 : decode cX9_looksAt 56 = .ok (.if_icmp .ne 7, 3) := by decide +kernel
theorem dX9_looksAt_59 : decode cX9_looksAt 59 = .ok (.iconst 1, 1) := by decide +kernel
theorem dX9_looksAt_60 : decode cX9_looksAt 60 = .ok (.goto 4, 3) := by decide +kernel
theorem dX9_looksAt_63 : decode cX9_looksAt 63 = .ok (.iconst 0, 1) := by decide +kernel
theorem dX9_looksAt_64 : decode cX9_looksAt 64 = .ok (.istore_n 3, 1) := by decide +kernel
theorem dX9_looksAt_65 : decode cX9_looksAt 65 = .ok (.iload_n 3, 1) := by decide +kernel
theorem dX9_looksAt_66 : decode cX9_looksAt 66 = .ok (.ifCond .ne 4, 3) := by decide +kernel
theorem dX9_looksAt_69 : decode cX9_looksAt 69 = .ok (.return_, 1) := by decide +kernel
theorem dX9_looksAt_70 : decode cX9_looksAt 70 = .ok (.aload_n 0, 1) := by decide +kernel
theorem dX9_looksAt_71 : decode cX9_looksAt 71 = .ok (.aload_n 0, 1) := by decide +kernel
theorem dX9_looksAt_72 : decode cX9_looksAt 72 = .ok (.getfield 361, 3) := by decide +kernel
theorem dX9_looksAt_75 : decode cX9_looksAt 75 = .ok (.aload_n 0, 1) := by decide +kernel
theorem dX9_looksAt_76 : decode cX9_looksAt 76 = .ok (.getfield 364, 3) := by decide +kernel
theorem dX9_looksAt_79 : decode cX9_looksAt 79 = .ok (.if_icmp .ne 7, 3) := by decide +kernel
theorem dX9_looksAt_82 : decode cX9_looksAt 82 = .ok (.iload_n 2, 1) := by decide +kernel
theorem dX9_looksAt_83 : decode cX9_looksAt 83 = .ok (.goto 7, 3) := by decide +kernel
theorem dX9_looksAt_86 : decode cX9_looksAt 86 = .ok (.aload_n 0, 1) := by decide +kernel
theorem dX9_looksAt_87 : decode cX9_looksAt 87 = .ok (.getfield 367, 3) := by decide +kernel
theorem dX9_looksAt_90 : decode cX9_looksAt 90 = .ok (.putfield 367, 3) := by decide +kernel
theorem dX9_looksAt_93 : decode cX9_looksAt 93 = .ok (.aload_n 0, 1) := by decide +kernel
theorem dX9_looksAt_94 : decode cX9_looksAt 94 = .ok (.dup, 1) := by decide +kernel
theorem dX9_looksAt_95 : decode cX9_looksAt 95 = .ok (.getfield 361, 3) := by decide +kernel
theorem dX9_looksAt_98 : decode cX9_looksAt 98 = .ok (.iconst 1, 1) := by decide +kernel
theorem dX9_looksAt_99 : decode cX9_looksAt 99 = .ok (.iadd, 1) := by decide +kernel
theorem dX9_looksAt_100 : decode cX9_looksAt 100 = .ok (.putfield 361, 3) := by decide +kernel
theorem dX9_looksAt_103 : decode cX9_looksAt 103 = .ok (.return_, 1) := by decide +kernel
def fX9_looksAt_90 (N : Nat)  (s0 : Int32) (v_soughtBy : Int32) (v_sought : Int32) (v_soughtAt : Int32) (v_foundMany : Int32) (v_foundOrder : Int32) (v_order1 : List Int32) (v_placeIn : List Int32) : Option (Int32 × Int32) :=
    mm_nm ((v_foundMany + (1 : Int32))) (fun (y_14 : Int32) =>
    some (y_14, s0))

set_option maxHeartbeats 4000000 in
set_option maxRecDepth 100000 in
theorem tX9_looksAt_90 {p : Program} {l : Launch} {e : Env} {s : State} {m : MethodId} {args : Array Value} {below : List Frame} {meth : Method} {c : Code} {D : va_G} {cI cL cS cH : ClassId} {A : Nat → Prop} {d : Nat} {a : Nat → Nat} (hd : 4 ≤ d) (C0 : mm_Cx p s m args meth c RX9 cX9_looksAt 4 none D (mm_T cI cL cS cH) A) (hA : ∀ q, s.heap.size ≤ q → A q) {v_keptMany : Int32} {v_done : Int32} {v_rowsOf : Int32} {v_columnsOf : Int32} {v_folded : Int32} {v_wronged : Int32} {v_tapeMany : Int32} {v_textMany : Int32} {v_base : Int32} {v_at : Int32} {v_ends : Int32} {v_fault : Int32} {v_opened : Int32} {v_bentMany : Int32} {v_bentWrong : Int32} {v_moreWorn : Int32} {v_planned : Int32} {v_allWrong : Int32} {v_allWorn : Int32} {v_z : Int32} {v_wishedField : Int32} {v_isFound : Bool} {v_bestWrong : Int32} {v_bestWorn : Int32} {v_bestMany : Int32} {v_isKept : Bool} {v_imageRows : Int32} {v_imageColumns : Int32} {v_imageFolded : Int32} {v_imageWronged : Int32} {v_bodies : Int32} {v_ran : Int32} {v_ownKind : Int32} {v_ownNumber : Int32} {v_limit : List Int32} {v_changeWas : List Int32} {v_changeIs : List Int32} {v_shapeRows : List Int32} {v_shapeColumns : List Int32} {v_row : List Int32} {v_column : List Int32} {v_below : List Int32} {v_face : List Int32} {v_worn : List Int32} {v_lastBend : List Int32} {v_tape : List Int32} {v_text : List Int32} {v_names : List Int32} {v_bends : List Int32} {v_high : List Int32} {v_to : List Int32} {v_pileSize : List Int32} {v_planLine : List Int32} {v_planWay : List Int32} {v_way1 : List Int32} {v_bestWay : List Int32} {v_bodyKind : List Int32} {v_trace : List Int32} {v_shelf : List Int32} {v_many : List Int32} {v_items : List Int64} {v_carried : List Int64} {w_foundMany : Int32} {w_foundOrder : Int32} (N : Nat)  : ∀ (s0 : Int32) (v_soughtBy : Int32) (v_sought : Int32) (v_soughtAt : Int32) (v_foundMany : Int32) (v_foundOrder : Int32) (v_order1 : List Int32) (v_placeIn : List Int32) (H : Heap) (locs : List Loc) (ls : Array Slot), fX9_looksAt_90 N s0 v_soughtBy v_sought v_soughtAt v_foundMany v_foundOrder v_order1 v_placeIn = some (w_foundMany, w_foundOrder) → va_P D mm_cl (wd_X9 cI cL cS cH a v_keptMany v_done v_rowsOf v_columnsOf v_folded v_wronged v_tapeMany v_textMany v_base v_at v_ends v_fault v_opened v_bentMany v_bentWrong v_moreWorn v_planned v_allWrong v_allWorn v_z v_wishedField v_isFound v_bestWrong v_bestWorn v_bestMany v_soughtBy v_sought v_soughtAt v_foundMany v_foundOrder v_isKept v_imageRows v_imageColumns v_imageFolded v_imageWronged v_bodies v_ran v_ownKind v_ownNumber v_limit v_changeWas v_changeIs v_shapeRows v_shapeColumns v_row v_column v_below v_face v_worn v_lastBend v_tape v_text v_names v_bends v_high v_to v_pileSize v_planLine v_planWay v_way1 v_bestWay v_order1 v_placeIn v_bodyKind v_trace v_shelf v_many v_items v_carried) H → va_D A (wd_X9 cI cL cS cH a v_keptMany v_done v_rowsOf v_columnsOf v_folded v_wronged v_tapeMany v_textMany v_base v_at v_ends v_fault v_opened v_bentMany v_bentWrong v_moreWorn v_planned v_allWrong v_allWorn v_z v_wishedField v_isFound v_bestWrong v_bestWorn v_bestMany v_soughtBy v_sought v_soughtAt v_foundMany v_foundOrder v_isKept v_imageRows v_imageColumns v_imageFolded v_imageWronged v_bodies v_ran v_ownKind v_ownNumber v_limit v_changeWas v_changeIs v_shapeRows v_shapeColumns v_row v_column v_below v_face v_worn v_lastBend v_tape v_text v_names v_bends v_high v_to v_pileSize v_planLine v_planWay v_way1 v_bestWay v_order1 v_placeIn v_bodyKind v_trace v_shelf v_many v_items v_carried) → va_S A s.heap H locs → lv_has ls 4 [(0, .ref (a 0))] → W p l e (mm_rr d) s m args below meth c H locs 0 0 (mm_Z below D A (wd_X9 cI cL cS cH a v_keptMany v_done v_rowsOf v_columnsOf v_folded v_wronged v_tapeMany v_textMany v_base v_at v_ends v_fault v_opened v_bentMany v_bentWrong v_moreWorn v_planned v_allWrong v_allWorn v_z v_wishedField v_isFound v_bestWrong v_bestWorn v_bestMany v_soughtBy v_sought v_soughtAt w_foundMany w_foundOrder v_isKept v_imageRows v_imageColumns v_imageFolded v_imageWronged v_bodies v_ran v_ownKind v_ownNumber v_limit v_changeWas v_changeIs v_shapeRows v_shapeColumns v_row v_column v_below v_face v_worn v_lastBend v_tape v_text v_names v_bends v_high v_to v_pileSize v_planLine v_planWay v_way1 v_bestWay v_order1 v_placeIn v_bodyKind v_trace v_shelf v_many v_items v_carried) none args s) (F0 m 90 ls [.int s0, .ref (a 0)]) := by
  obtain ⟨hx, hb, hml, hown, hts, hr, hlocks, hK, hSt⟩ := id C0
  intro s0 v_soughtBy v_sought v_soughtAt v_foundMany v_foundOrder v_order1 v_placeIn H locs ls hf hP hD hS hl
  unfold fX9_looksAt_90 at hf
  refine mm_put C0 hP hD hS iw_X9 tyX9 tyX9_ok nmX9 0 rfl rfl 53 (by decide) fl_X9_367 rfl rfl rfl (Nat.le_of_ble_eq_true rfl) dX9_looksAt_90 (w2 := (wd_X9 cI cL cS cH a v_keptMany v_done v_rowsOf v_columnsOf v_folded v_wronged v_tapeMany v_textMany v_base v_at v_ends v_fault v_opened v_bentMany v_bentWrong v_moreWorn v_planned v_allWrong v_allWorn v_z v_wishedField v_isFound v_bestWrong v_bestWorn v_bestMany v_soughtBy v_sought v_soughtAt v_foundMany s0 v_isKept v_imageRows v_imageColumns v_imageFolded v_imageWronged v_bodies v_ran v_ownKind v_ownNumber v_limit v_changeWas v_changeIs v_shapeRows v_shapeColumns v_row v_column v_below v_face v_worn v_lastBend v_tape v_text v_names v_bends v_high v_to v_pileSize v_planLine v_planWay v_way1 v_bestWay v_order1 v_placeIn v_bodyKind v_trace v_shelf v_many v_items v_carried)) rfl (fun H locs hP hD hS => ?_)
  refine lv_aload_n hx hb dX9_looksAt_93 rfl (lv_at hl 0 rfl) ?_
  refine lv_dup hx hb dX9_looksAt_94 rfl ?_
  refine mm_get C0 hP iw_X9 0 rfl rfl 52 (by decide) fl_X9_361 rfl dX9_looksAt_95 ?_
  refine lv_iconst (v := 1) hx hb dX9_looksAt_98 (by decide) ?_
  refine lv_iadd hx hb dX9_looksAt_99 ?_
  refine lv_topi (fun y_14 ey_14 => ?_)
  have hf := mm_nms hf ey_14
  refine mm_put C0 hP hD hS iw_X9 tyX9 tyX9_ok nmX9 0 rfl rfl 52 (by decide) fl_X9_361 rfl rfl rfl (Nat.le_of_ble_eq_true rfl) dX9_looksAt_100 (w2 := (wd_X9 cI cL cS cH a v_keptMany v_done v_rowsOf v_columnsOf v_folded v_wronged v_tapeMany v_textMany v_base v_at v_ends v_fault v_opened v_bentMany v_bentWrong v_moreWorn v_planned v_allWrong v_allWorn v_z v_wishedField v_isFound v_bestWrong v_bestWorn v_bestMany v_soughtBy v_sought v_soughtAt y_14 s0 v_isKept v_imageRows v_imageColumns v_imageFolded v_imageWronged v_bodies v_ran v_ownKind v_ownNumber v_limit v_changeWas v_changeIs v_shapeRows v_shapeColumns v_row v_column v_below v_face v_worn v_lastBend v_tape v_text v_names v_bends v_high v_to v_pileSize v_planLine v_planWay v_way1 v_bestWay v_order1 v_placeIn v_bodyKind v_trace v_shelf v_many v_items v_carried)) rfl (fun H locs hP hD hS => ?_)
  apply mm_sub2 hf
  exact mm_vret C0 hP hD hS dX9_looksAt_103

def fX9_looksAt_64 (N : Nat)  (x2 : Int32) (s0 : Int32) (v_soughtBy : Int32) (v_sought : Int32) (v_soughtAt : Int32) (v_foundMany : Int32) (v_foundOrder : Int32) (v_order1 : List Int32) (v_placeIn : List Int32) : Option (Int32 × Int32) :=
    if s0 = 0 then
    (some (v_foundMany, v_foundOrder))
    else (if v_foundMany = v_soughtAt then
    (fX9_looksAt_90 N x2 v_soughtBy v_sought v_soughtAt v_foundMany v_foundOrder v_order1 v_placeIn)
    else (fX9_looksAt_90 N v_foundOrder v_soughtBy v_sought v_soughtAt v_foundMany v_foundOrder v_order1 v_placeIn))

set_option maxHeartbeats 4000000 in
set_option maxRecDepth 100000 in
theorem tX9_looksAt_64 {p : Program} {l : Launch} {e : Env} {s : State} {m : MethodId} {args : Array Value} {below : List Frame} {meth : Method} {c : Code} {D : va_G} {cI cL cS cH : ClassId} {A : Nat → Prop} {d : Nat} {a : Nat → Nat} (hd : 4 ≤ d) (C0 : mm_Cx p s m args meth c RX9 cX9_looksAt 4 none D (mm_T cI cL cS cH) A) (hA : ∀ q, s.heap.size ≤ q → A q) {v_keptMany : Int32} {v_done : Int32} {v_rowsOf : Int32} {v_columnsOf : Int32} {v_folded : Int32} {v_wronged : Int32} {v_tapeMany : Int32} {v_textMany : Int32} {v_base : Int32} {v_at : Int32} {v_ends : Int32} {v_fault : Int32} {v_opened : Int32} {v_bentMany : Int32} {v_bentWrong : Int32} {v_moreWorn : Int32} {v_planned : Int32} {v_allWrong : Int32} {v_allWorn : Int32} {v_z : Int32} {v_wishedField : Int32} {v_isFound : Bool} {v_bestWrong : Int32} {v_bestWorn : Int32} {v_bestMany : Int32} {v_isKept : Bool} {v_imageRows : Int32} {v_imageColumns : Int32} {v_imageFolded : Int32} {v_imageWronged : Int32} {v_bodies : Int32} {v_ran : Int32} {v_ownKind : Int32} {v_ownNumber : Int32} {v_limit : List Int32} {v_changeWas : List Int32} {v_changeIs : List Int32} {v_shapeRows : List Int32} {v_shapeColumns : List Int32} {v_row : List Int32} {v_column : List Int32} {v_below : List Int32} {v_face : List Int32} {v_worn : List Int32} {v_lastBend : List Int32} {v_tape : List Int32} {v_text : List Int32} {v_names : List Int32} {v_bends : List Int32} {v_high : List Int32} {v_to : List Int32} {v_pileSize : List Int32} {v_planLine : List Int32} {v_planWay : List Int32} {v_way1 : List Int32} {v_bestWay : List Int32} {v_bodyKind : List Int32} {v_trace : List Int32} {v_shelf : List Int32} {v_many : List Int32} {v_items : List Int64} {v_carried : List Int64} {w_foundMany : Int32} {w_foundOrder : Int32} (N : Nat)  : ∀ (x2 : Int32) (s0 : Int32) (v_soughtBy : Int32) (v_sought : Int32) (v_soughtAt : Int32) (v_foundMany : Int32) (v_foundOrder : Int32) (v_order1 : List Int32) (v_placeIn : List Int32) (H : Heap) (locs : List Loc) (ls : Array Slot), fX9_looksAt_64 N x2 s0 v_soughtBy v_sought v_soughtAt v_foundMany v_foundOrder v_order1 v_placeIn = some (w_foundMany, w_foundOrder) → va_P D mm_cl (wd_X9 cI cL cS cH a v_keptMany v_done v_rowsOf v_columnsOf v_folded v_wronged v_tapeMany v_textMany v_base v_at v_ends v_fault v_opened v_bentMany v_bentWrong v_moreWorn v_planned v_allWrong v_allWorn v_z v_wishedField v_isFound v_bestWrong v_bestWorn v_bestMany v_soughtBy v_sought v_soughtAt v_foundMany v_foundOrder v_isKept v_imageRows v_imageColumns v_imageFolded v_imageWronged v_bodies v_ran v_ownKind v_ownNumber v_limit v_changeWas v_changeIs v_shapeRows v_shapeColumns v_row v_column v_below v_face v_worn v_lastBend v_tape v_text v_names v_bends v_high v_to v_pileSize v_planLine v_planWay v_way1 v_bestWay v_order1 v_placeIn v_bodyKind v_trace v_shelf v_many v_items v_carried) H → va_D A (wd_X9 cI cL cS cH a v_keptMany v_done v_rowsOf v_columnsOf v_folded v_wronged v_tapeMany v_textMany v_base v_at v_ends v_fault v_opened v_bentMany v_bentWrong v_moreWorn v_planned v_allWrong v_allWorn v_z v_wishedField v_isFound v_bestWrong v_bestWorn v_bestMany v_soughtBy v_sought v_soughtAt v_foundMany v_foundOrder v_isKept v_imageRows v_imageColumns v_imageFolded v_imageWronged v_bodies v_ran v_ownKind v_ownNumber v_limit v_changeWas v_changeIs v_shapeRows v_shapeColumns v_row v_column v_below v_face v_worn v_lastBend v_tape v_text v_names v_bends v_high v_to v_pileSize v_planLine v_planWay v_way1 v_bestWay v_order1 v_placeIn v_bodyKind v_trace v_shelf v_many v_items v_carried) → va_S A s.heap H locs → lv_has ls 4 [(0, .ref (a 0)), (2, .int x2)] → W p l e (mm_rr d) s m args below meth c H locs 0 0 (mm_Z below D A (wd_X9 cI cL cS cH a v_keptMany v_done v_rowsOf v_columnsOf v_folded v_wronged v_tapeMany v_textMany v_base v_at v_ends v_fault v_opened v_bentMany v_bentWrong v_moreWorn v_planned v_allWrong v_allWorn v_z v_wishedField v_isFound v_bestWrong v_bestWorn v_bestMany v_soughtBy v_sought v_soughtAt w_foundMany w_foundOrder v_isKept v_imageRows v_imageColumns v_imageFolded v_imageWronged v_bodies v_ran v_ownKind v_ownNumber v_limit v_changeWas v_changeIs v_shapeRows v_shapeColumns v_row v_column v_below v_face v_worn v_lastBend v_tape v_text v_names v_bends v_high v_to v_pileSize v_planLine v_planWay v_way1 v_bestWay v_order1 v_placeIn v_bodyKind v_trace v_shelf v_many v_items v_carried) none args s) (F0 m 64 ls [.int s0]) := by
  obtain ⟨hx, hb, hml, hown, hts, hr, hlocks, hK, hSt⟩ := id C0
  intro x2 s0 v_soughtBy v_sought v_soughtAt v_foundMany v_foundOrder v_order1 v_placeIn H locs ls hf hP hD hS hl
  unfold fX9_looksAt_64 at hf
  refine lv_istore_n (lv' := [(3, .int s0), (0, .ref (a 0)), (2, .int x2)]) hx hb dX9_looksAt_64 rfl hl (by decide) rfl (fun ls hl => ?_)
  refine lv_iload_n hx hb dX9_looksAt_65 rfl (lv_at hl 0 rfl) ?_
  refine lv_if_ne (tgt := 70) hx hb dX9_looksAt_66 (by decide) (fun c_12 => ?_) (fun c_12 => ?_)
  · have hf := mm_in hf c_12
    refine lv_aload_n hx hb dX9_looksAt_70 rfl (lv_at hl 1 rfl) ?_
    refine lv_aload_n hx hb dX9_looksAt_71 rfl (lv_at hl 1 rfl) ?_
    refine mm_get C0 hP iw_X9 0 rfl rfl 52 (by decide) fl_X9_361 rfl dX9_looksAt_72 ?_
    refine lv_aload_n hx hb dX9_looksAt_75 rfl (lv_at hl 1 rfl) ?_
    refine mm_get C0 hP iw_X9 0 rfl rfl 51 (by decide) fl_X9_364 rfl dX9_looksAt_76 ?_
    refine lv_icmp_ne (tgt := 86) hx hb dX9_looksAt_79 (by decide) (fun c_13 => ?_) (fun c_13 => ?_)
    · have hf := mm_in hf c_13
      refine lv_aload_n hx hb dX9_looksAt_86 rfl (lv_at hl 1 rfl) ?_
      refine mm_get C0 hP iw_X9 0 rfl rfl 53 (by decide) fl_X9_367 rfl dX9_looksAt_87 ?_
      exact tX9_looksAt_90 hd C0 hA N  _ _ _ _ _ _ _ _ H locs ls hf hP hD hS (lv_sub hl [1] rfl)
    · have hf := mm_ip hf c_13
      refine lv_iload_n hx hb dX9_looksAt_82 rfl (lv_at hl 2 rfl) ?_
      refine lv_goto (tgt := 90) hx hb dX9_looksAt_83 (by decide) ?_
      exact tX9_looksAt_90 hd C0 hA N  _ _ _ _ _ _ _ _ H locs ls hf hP hD hS (lv_sub hl [1] rfl)
  · have hf := mm_ip hf c_12
    apply mm_sub2 hf
    exact mm_vret C0 hP hD hS dX9_looksAt_69

def fX9_looksAt_59 (N : Nat)  (x2 : Int32) (v_soughtBy : Int32) (v_sought : Int32) (v_soughtAt : Int32) (v_foundMany : Int32) (v_foundOrder : Int32) (v_order1 : List Int32) (v_placeIn : List Int32) : Option (Int32 × Int32) :=
    fX9_looksAt_64 N x2 (1 : Int32) v_soughtBy v_sought v_soughtAt v_foundMany v_foundOrder v_order1 v_placeIn

set_option maxHeartbeats 4000000 in
set_option maxRecDepth 100000 in
theorem tX9_looksAt_59 {p : Program} {l : Launch} {e : Env} {s : State} {m : MethodId} {args : Array Value} {below : List Frame} {meth : Method} {c : Code} {D : va_G} {cI cL cS cH : ClassId} {A : Nat → Prop} {d : Nat} {a : Nat → Nat} (hd : 4 ≤ d) (C0 : mm_Cx p s m args meth c RX9 cX9_looksAt 4 none D (mm_T cI cL cS cH) A) (hA : ∀ q, s.heap.size ≤ q → A q) {v_keptMany : Int32} {v_done : Int32} {v_rowsOf : Int32} {v_columnsOf : Int32} {v_folded : Int32} {v_wronged : Int32} {v_tapeMany : Int32} {v_textMany : Int32} {v_base : Int32} {v_at : Int32} {v_ends : Int32} {v_fault : Int32} {v_opened : Int32} {v_bentMany : Int32} {v_bentWrong : Int32} {v_moreWorn : Int32} {v_planned : Int32} {v_allWrong : Int32} {v_allWorn : Int32} {v_z : Int32} {v_wishedField : Int32} {v_isFound : Bool} {v_bestWrong : Int32} {v_bestWorn : Int32} {v_bestMany : Int32} {v_isKept : Bool} {v_imageRows : Int32} {v_imageColumns : Int32} {v_imageFolded : Int32} {v_imageWronged : Int32} {v_bodies : Int32} {v_ran : Int32} {v_ownKind : Int32} {v_ownNumber : Int32} {v_limit : List Int32} {v_changeWas : List Int32} {v_changeIs : List Int32} {v_shapeRows : List Int32} {v_shapeColumns : List Int32} {v_row : List Int32} {v_column : List Int32} {v_below : List Int32} {v_face : List Int32} {v_worn : List Int32} {v_lastBend : List Int32} {v_tape : List Int32} {v_text : List Int32} {v_names : List Int32} {v_bends : List Int32} {v_high : List Int32} {v_to : List Int32} {v_pileSize : List Int32} {v_planLine : List Int32} {v_planWay : List Int32} {v_way1 : List Int32} {v_bestWay : List Int32} {v_bodyKind : List Int32} {v_trace : List Int32} {v_shelf : List Int32} {v_many : List Int32} {v_items : List Int64} {v_carried : List Int64} {w_foundMany : Int32} {w_foundOrder : Int32} (N : Nat)  : ∀ (x2 : Int32) (v_soughtBy : Int32) (v_sought : Int32) (v_soughtAt : Int32) (v_foundMany : Int32) (v_foundOrder : Int32) (v_order1 : List Int32) (v_placeIn : List Int32) (H : Heap) (locs : List Loc) (ls : Array Slot), fX9_looksAt_59 N x2 v_soughtBy v_sought v_soughtAt v_foundMany v_foundOrder v_order1 v_placeIn = some (w_foundMany, w_foundOrder) → va_P D mm_cl (wd_X9 cI cL cS cH a v_keptMany v_done v_rowsOf v_columnsOf v_folded v_wronged v_tapeMany v_textMany v_base v_at v_ends v_fault v_opened v_bentMany v_bentWrong v_moreWorn v_planned v_allWrong v_allWorn v_z v_wishedField v_isFound v_bestWrong v_bestWorn v_bestMany v_soughtBy v_sought v_soughtAt v_foundMany v_foundOrder v_isKept v_imageRows v_imageColumns v_imageFolded v_imageWronged v_bodies v_ran v_ownKind v_ownNumber v_limit v_changeWas v_changeIs v_shapeRows v_shapeColumns v_row v_column v_below v_face v_worn v_lastBend v_tape v_text v_names v_bends v_high v_to v_pileSize v_planLine v_planWay v_way1 v_bestWay v_order1 v_placeIn v_bodyKind v_trace v_shelf v_many v_items v_carried) H → va_D A (wd_X9 cI cL cS cH a v_keptMany v_done v_rowsOf v_columnsOf v_folded v_wronged v_tapeMany v_textMany v_base v_at v_ends v_fault v_opened v_bentMany v_bentWrong v_moreWorn v_planned v_allWrong v_allWorn v_z v_wishedField v_isFound v_bestWrong v_bestWorn v_bestMany v_soughtBy v_sought v_soughtAt v_foundMany v_foundOrder v_isKept v_imageRows v_imageColumns v_imageFolded v_imageWronged v_bodies v_ran v_ownKind v_ownNumber v_limit v_changeWas v_changeIs v_shapeRows v_shapeColumns v_row v_column v_below v_face v_worn v_lastBend v_tape v_text v_names v_bends v_high v_to v_pileSize v_planLine v_planWay v_way1 v_bestWay v_order1 v_placeIn v_bodyKind v_trace v_shelf v_many v_items v_carried) → va_S A s.heap H locs → lv_has ls 4 [(0, .ref (a 0)), (2, .int x2)] → W p l e (mm_rr d) s m args below meth c H locs 0 0 (mm_Z below D A (wd_X9 cI cL cS cH a v_keptMany v_done v_rowsOf v_columnsOf v_folded v_wronged v_tapeMany v_textMany v_base v_at v_ends v_fault v_opened v_bentMany v_bentWrong v_moreWorn v_planned v_allWrong v_allWorn v_z v_wishedField v_isFound v_bestWrong v_bestWorn v_bestMany v_soughtBy v_sought v_soughtAt w_foundMany w_foundOrder v_isKept v_imageRows v_imageColumns v_imageFolded v_imageWronged v_bodies v_ran v_ownKind v_ownNumber v_limit v_changeWas v_changeIs v_shapeRows v_shapeColumns v_row v_column v_below v_face v_worn v_lastBend v_tape v_text v_names v_bends v_high v_to v_pileSize v_planLine v_planWay v_way1 v_bestWay v_order1 v_placeIn v_bodyKind v_trace v_shelf v_many v_items v_carried) none args s) (F0 m 59 ls []) := by
  obtain ⟨hx, hb, hml, hown, hts, hr, hlocks, hK, hSt⟩ := id C0
  intro x2 v_soughtBy v_sought v_soughtAt v_foundMany v_foundOrder v_order1 v_placeIn H locs ls hf hP hD hS hl
  unfold fX9_looksAt_59 at hf
  refine lv_iconst (v := 1) hx hb dX9_looksAt_59 (by decide) ?_
  refine lv_goto (tgt := 64) hx hb dX9_looksAt_60 (by decide) ?_
  exact tX9_looksAt_64 hd C0 hA N  _ _ _ _ _ _ _ _ _ H locs ls hf hP hD hS (lv_sub hl [0, 1] rfl)

def fX9_looksAt_63 (N : Nat)  (x2 : Int32) (v_soughtBy : Int32) (v_sought : Int32) (v_soughtAt : Int32) (v_foundMany : Int32) (v_foundOrder : Int32) (v_order1 : List Int32) (v_placeIn : List Int32) : Option (Int32 × Int32) :=
    fX9_looksAt_64 N x2 (0 : Int32) v_soughtBy v_sought v_soughtAt v_foundMany v_foundOrder v_order1 v_placeIn

set_option maxHeartbeats 4000000 in
set_option maxRecDepth 100000 in
theorem tX9_looksAt_63 {p : Program} {l : Launch} {e : Env} {s : State} {m : MethodId} {args : Array Value} {below : List Frame} {meth : Method} {c : Code} {D : va_G} {cI cL cS cH : ClassId} {A : Nat → Prop} {d : Nat} {a : Nat → Nat} (hd : 4 ≤ d) (C0 : mm_Cx p s m args meth c RX9 cX9_looksAt 4 none D (mm_T cI cL cS cH) A) (hA : ∀ q, s.heap.size ≤ q → A q) {v_keptMany : Int32} {v_done : Int32} {v_rowsOf : Int32} {v_columnsOf : Int32} {v_folded : Int32} {v_wronged : Int32} {v_tapeMany : Int32} {v_textMany : Int32} {v_base : Int32} {v_at : Int32} {v_ends : Int32} {v_fault : Int32} {v_opened : Int32} {v_bentMany : Int32} {v_bentWrong : Int32} {v_moreWorn : Int32} {v_planned : Int32} {v_allWrong : Int32} {v_allWorn : Int32} {v_z : Int32} {v_wishedField : Int32} {v_isFound : Bool} {v_bestWrong : Int32} {v_bestWorn : Int32} {v_bestMany : Int32} {v_isKept : Bool} {v_imageRows : Int32} {v_imageColumns : Int32} {v_imageFolded : Int32} {v_imageWronged : Int32} {v_bodies : Int32} {v_ran : Int32} {v_ownKind : Int32} {v_ownNumber : Int32} {v_limit : List Int32} {v_changeWas : List Int32} {v_changeIs : List Int32} {v_shapeRows : List Int32} {v_shapeColumns : List Int32} {v_row : List Int32} {v_column : List Int32} {v_below : List Int32} {v_face : List Int32} {v_worn : List Int32} {v_lastBend : List Int32} {v_tape : List Int32} {v_text : List Int32} {v_names : List Int32} {v_bends : List Int32} {v_high : List Int32} {v_to : List Int32} {v_pileSize : List Int32} {v_planLine : List Int32} {v_planWay : List Int32} {v_way1 : List Int32} {v_bestWay : List Int32} {v_bodyKind : List Int32} {v_trace : List Int32} {v_shelf : List Int32} {v_many : List Int32} {v_items : List Int64} {v_carried : List Int64} {w_foundMany : Int32} {w_foundOrder : Int32} (N : Nat)  : ∀ (x2 : Int32) (v_soughtBy : Int32) (v_sought : Int32) (v_soughtAt : Int32) (v_foundMany : Int32) (v_foundOrder : Int32) (v_order1 : List Int32) (v_placeIn : List Int32) (H : Heap) (locs : List Loc) (ls : Array Slot), fX9_looksAt_63 N x2 v_soughtBy v_sought v_soughtAt v_foundMany v_foundOrder v_order1 v_placeIn = some (w_foundMany, w_foundOrder) → va_P D mm_cl (wd_X9 cI cL cS cH a v_keptMany v_done v_rowsOf v_columnsOf v_folded v_wronged v_tapeMany v_textMany v_base v_at v_ends v_fault v_opened v_bentMany v_bentWrong v_moreWorn v_planned v_allWrong v_allWorn v_z v_wishedField v_isFound v_bestWrong v_bestWorn v_bestMany v_soughtBy v_sought v_soughtAt v_foundMany v_foundOrder v_isKept v_imageRows v_imageColumns v_imageFolded v_imageWronged v_bodies v_ran v_ownKind v_ownNumber v_limit v_changeWas v_changeIs v_shapeRows v_shapeColumns v_row v_column v_below v_face v_worn v_lastBend v_tape v_text v_names v_bends v_high v_to v_pileSize v_planLine v_planWay v_way1 v_bestWay v_order1 v_placeIn v_bodyKind v_trace v_shelf v_many v_items v_carried) H → va_D A (wd_X9 cI cL cS cH a v_keptMany v_done v_rowsOf v_columnsOf v_folded v_wronged v_tapeMany v_textMany v_base v_at v_ends v_fault v_opened v_bentMany v_bentWrong v_moreWorn v_planned v_allWrong v_allWorn v_z v_wishedField v_isFound v_bestWrong v_bestWorn v_bestMany v_soughtBy v_sought v_soughtAt v_foundMany v_foundOrder v_isKept v_imageRows v_imageColumns v_imageFolded v_imageWronged v_bodies v_ran v_ownKind v_ownNumber v_limit v_changeWas v_changeIs v_shapeRows v_shapeColumns v_row v_column v_below v_face v_worn v_lastBend v_tape v_text v_names v_bends v_high v_to v_pileSize v_planLine v_planWay v_way1 v_bestWay v_order1 v_placeIn v_bodyKind v_trace v_shelf v_many v_items v_carried) → va_S A s.heap H locs → lv_has ls 4 [(0, .ref (a 0)), (2, .int x2)] → W p l e (mm_rr d) s m args below meth c H locs 0 0 (mm_Z below D A (wd_X9 cI cL cS cH a v_keptMany v_done v_rowsOf v_columnsOf v_folded v_wronged v_tapeMany v_textMany v_base v_at v_ends v_fault v_opened v_bentMany v_bentWrong v_moreWorn v_planned v_allWrong v_allWorn v_z v_wishedField v_isFound v_bestWrong v_bestWorn v_bestMany v_soughtBy v_sought v_soughtAt w_foundMany w_foundOrder v_isKept v_imageRows v_imageColumns v_imageFolded v_imageWronged v_bodies v_ran v_ownKind v_ownNumber v_limit v_changeWas v_changeIs v_shapeRows v_shapeColumns v_row v_column v_below v_face v_worn v_lastBend v_tape v_text v_names v_bends v_high v_to v_pileSize v_planLine v_planWay v_way1 v_bestWay v_order1 v_placeIn v_bodyKind v_trace v_shelf v_many v_items v_carried) none args s) (F0 m 63 ls []) := by
  obtain ⟨hx, hb, hml, hown, hts, hr, hlocks, hK, hSt⟩ := id C0
  intro x2 v_soughtBy v_sought v_soughtAt v_foundMany v_foundOrder v_order1 v_placeIn H locs ls hf hP hD hS hl
  unfold fX9_looksAt_63 at hf
  refine lv_iconst (v := 0) hx hb dX9_looksAt_63 (by decide) ?_
  exact tX9_looksAt_64 hd C0 hA N  _ _ _ _ _ _ _ _ _ H locs ls hf hP hD hS (lv_sub hl [0, 1] rfl)

def fX9_looksAt_36 (N : Nat)  (x1 : Int32) (x2 : Int32) (v_soughtBy : Int32) (v_sought : Int32) (v_soughtAt : Int32) (v_foundMany : Int32) (v_foundOrder : Int32) (v_order1 : List Int32) (v_placeIn : List Int32) : Option (Int32 × Int32) :=
    if v_soughtBy = (2 : Int32) then
    (mm_ck (mm_inb (x1 - (1 : Int32)) v_order1.length) (if (mm_ig v_order1 (x1 - (1 : Int32))) = v_sought then
    (fX9_looksAt_59 N x2 v_soughtBy v_sought v_soughtAt v_foundMany v_foundOrder v_order1 v_placeIn)
    else (fX9_looksAt_63 N x2 v_soughtBy v_sought v_soughtAt v_foundMany v_foundOrder v_order1 v_placeIn)))
    else (fX9_looksAt_63 N x2 v_soughtBy v_sought v_soughtAt v_foundMany v_foundOrder v_order1 v_placeIn)

set_option maxHeartbeats 4000000 in
set_option maxRecDepth 100000 in
theorem tX9_looksAt_36 {p : Program} {l : Launch} {e : Env} {s : State} {m : MethodId} {args : Array Value} {below : List Frame} {meth : Method} {c : Code} {D : va_G} {cI cL cS cH : ClassId} {A : Nat → Prop} {d : Nat} {a : Nat → Nat} (hd : 4 ≤ d) (C0 : mm_Cx p s m args meth c RX9 cX9_looksAt 4 none D (mm_T cI cL cS cH) A) (hA : ∀ q, s.heap.size ≤ q → A q) {v_keptMany : Int32} {v_done : Int32} {v_rowsOf : Int32} {v_columnsOf : Int32} {v_folded : Int32} {v_wronged : Int32} {v_tapeMany : Int32} {v_textMany : Int32} {v_base : Int32} {v_at : Int32} {v_ends : Int32} {v_fault : Int32} {v_opened : Int32} {v_bentMany : Int32} {v_bentWrong : Int32} {v_moreWorn : Int32} {v_planned : Int32} {v_allWrong : Int32} {v_allWorn : Int32} {v_z : Int32} {v_wishedField : Int32} {v_isFound : Bool} {v_bestWrong : Int32} {v_bestWorn : Int32} {v_bestMany : Int32} {v_isKept : Bool} {v_imageRows : Int32} {v_imageColumns : Int32} {v_imageFolded : Int32} {v_imageWronged : Int32} {v_bodies : Int32} {v_ran : Int32} {v_ownKind : Int32} {v_ownNumber : Int32} {v_limit : List Int32} {v_changeWas : List Int32} {v_changeIs : List Int32} {v_shapeRows : List Int32} {v_shapeColumns : List Int32} {v_row : List Int32} {v_column : List Int32} {v_below : List Int32} {v_face : List Int32} {v_worn : List Int32} {v_lastBend : List Int32} {v_tape : List Int32} {v_text : List Int32} {v_names : List Int32} {v_bends : List Int32} {v_high : List Int32} {v_to : List Int32} {v_pileSize : List Int32} {v_planLine : List Int32} {v_planWay : List Int32} {v_way1 : List Int32} {v_bestWay : List Int32} {v_bodyKind : List Int32} {v_trace : List Int32} {v_shelf : List Int32} {v_many : List Int32} {v_items : List Int64} {v_carried : List Int64} {w_foundMany : Int32} {w_foundOrder : Int32} (N : Nat)  : ∀ (x1 : Int32) (x2 : Int32) (v_soughtBy : Int32) (v_sought : Int32) (v_soughtAt : Int32) (v_foundMany : Int32) (v_foundOrder : Int32) (v_order1 : List Int32) (v_placeIn : List Int32) (H : Heap) (locs : List Loc) (ls : Array Slot), fX9_looksAt_36 N x1 x2 v_soughtBy v_sought v_soughtAt v_foundMany v_foundOrder v_order1 v_placeIn = some (w_foundMany, w_foundOrder) → va_P D mm_cl (wd_X9 cI cL cS cH a v_keptMany v_done v_rowsOf v_columnsOf v_folded v_wronged v_tapeMany v_textMany v_base v_at v_ends v_fault v_opened v_bentMany v_bentWrong v_moreWorn v_planned v_allWrong v_allWorn v_z v_wishedField v_isFound v_bestWrong v_bestWorn v_bestMany v_soughtBy v_sought v_soughtAt v_foundMany v_foundOrder v_isKept v_imageRows v_imageColumns v_imageFolded v_imageWronged v_bodies v_ran v_ownKind v_ownNumber v_limit v_changeWas v_changeIs v_shapeRows v_shapeColumns v_row v_column v_below v_face v_worn v_lastBend v_tape v_text v_names v_bends v_high v_to v_pileSize v_planLine v_planWay v_way1 v_bestWay v_order1 v_placeIn v_bodyKind v_trace v_shelf v_many v_items v_carried) H → va_D A (wd_X9 cI cL cS cH a v_keptMany v_done v_rowsOf v_columnsOf v_folded v_wronged v_tapeMany v_textMany v_base v_at v_ends v_fault v_opened v_bentMany v_bentWrong v_moreWorn v_planned v_allWrong v_allWorn v_z v_wishedField v_isFound v_bestWrong v_bestWorn v_bestMany v_soughtBy v_sought v_soughtAt v_foundMany v_foundOrder v_isKept v_imageRows v_imageColumns v_imageFolded v_imageWronged v_bodies v_ran v_ownKind v_ownNumber v_limit v_changeWas v_changeIs v_shapeRows v_shapeColumns v_row v_column v_below v_face v_worn v_lastBend v_tape v_text v_names v_bends v_high v_to v_pileSize v_planLine v_planWay v_way1 v_bestWay v_order1 v_placeIn v_bodyKind v_trace v_shelf v_many v_items v_carried) → va_S A s.heap H locs → lv_has ls 4 [(0, .ref (a 0)), (1, .int x1), (2, .int x2)] → W p l e (mm_rr d) s m args below meth c H locs 0 0 (mm_Z below D A (wd_X9 cI cL cS cH a v_keptMany v_done v_rowsOf v_columnsOf v_folded v_wronged v_tapeMany v_textMany v_base v_at v_ends v_fault v_opened v_bentMany v_bentWrong v_moreWorn v_planned v_allWrong v_allWorn v_z v_wishedField v_isFound v_bestWrong v_bestWorn v_bestMany v_soughtBy v_sought v_soughtAt w_foundMany w_foundOrder v_isKept v_imageRows v_imageColumns v_imageFolded v_imageWronged v_bodies v_ran v_ownKind v_ownNumber v_limit v_changeWas v_changeIs v_shapeRows v_shapeColumns v_row v_column v_below v_face v_worn v_lastBend v_tape v_text v_names v_bends v_high v_to v_pileSize v_planLine v_planWay v_way1 v_bestWay v_order1 v_placeIn v_bodyKind v_trace v_shelf v_many v_items v_carried) none args s) (F0 m 36 ls []) := by
  obtain ⟨hx, hb, hml, hown, hts, hr, hlocks, hK, hSt⟩ := id C0
  intro x1 x2 v_soughtBy v_sought v_soughtAt v_foundMany v_foundOrder v_order1 v_placeIn H locs ls hf hP hD hS hl
  unfold fX9_looksAt_36 at hf
  refine lv_aload_n hx hb dX9_looksAt_36 rfl (lv_at hl 0 rfl) ?_
  refine mm_get C0 hP iw_X9 0 rfl rfl 49 (by decide) fl_X9_355 rfl dX9_looksAt_37 ?_
  refine lv_iconst (v := 2) hx hb dX9_looksAt_40 (by decide) ?_
  refine lv_icmp_ne (tgt := 63) hx hb dX9_looksAt_41 (by decide) (fun c_9 => ?_) (fun c_9 => ?_)
  · have hf := mm_in hf c_9
    exact tX9_looksAt_63 hd C0 hA N  _ _ _ _ _ _ _ _ H locs ls hf hP hD hS (lv_sub hl [0, 2] rfl)
  · have hf := mm_ip hf c_9
    refine lv_aload_n hx hb dX9_looksAt_44 rfl (lv_at hl 0 rfl) ?_
    refine mm_get C0 hP iw_X9 0 rfl rfl 47 (by decide) fl_X9_76 rfl dX9_looksAt_45 ?_
    refine lv_iload_n hx hb dX9_looksAt_48 rfl (lv_at hl 1 rfl) ?_
    refine lv_iconst (v := 1) hx hb dX9_looksAt_49 (by decide) ?_
    refine lv_isub hx hb dX9_looksAt_50 ?_
    obtain ⟨h_10, hf⟩ := mm_cks hf
    refine mm_iald C0 hP 23 rfl h_10 dX9_looksAt_51 ?_
    refine lv_aload_n hx hb dX9_looksAt_52 rfl (lv_at hl 0 rfl) ?_
    refine mm_get C0 hP iw_X9 0 rfl rfl 50 (by decide) fl_X9_358 rfl dX9_looksAt_53 ?_
    refine lv_icmp_ne (tgt := 63) hx hb dX9_looksAt_56 (by decide) (fun c_11 => ?_) (fun c_11 => ?_)
    · have hf := mm_in hf c_11
      exact tX9_looksAt_63 hd C0 hA N  _ _ _ _ _ _ _ _ H locs ls hf hP hD hS (lv_sub hl [0, 2] rfl)
    · have hf := mm_ip hf c_11
      exact tX9_looksAt_59 hd C0 hA N  _ _ _ _ _ _ _ _ H locs ls hf hP hD hS (lv_sub hl [0, 2] rfl)

def fX9_looksAt (N : Nat) (x1 : Int32) (x2 : Int32) (v_soughtBy : Int32) (v_sought : Int32) (v_soughtAt : Int32) (v_foundMany : Int32) (v_foundOrder : Int32) (v_order1 : List Int32) (v_placeIn : List Int32) : Option (Int32 × Int32) :=
    mm_bd1 (fX9_firstCross N x1 v_placeIn) (fun (r_1 : Int32) =>
    if r_1 < 0 then
    (if v_soughtBy = 0 then
    (fX9_looksAt_59 N x2 v_soughtBy v_sought v_soughtAt v_foundMany v_foundOrder v_order1 v_placeIn)
    else (if v_soughtBy = (1 : Int32) then
    (mm_bd1 (fX9_bendsOf N x1 v_placeIn) (fun (r_6 : Int32) =>
    if r_6 = v_sought then
    (fX9_looksAt_59 N x2 v_soughtBy v_sought v_soughtAt v_foundMany v_foundOrder v_order1 v_placeIn)
    else (fX9_looksAt_36 N x1 x2 v_soughtBy v_sought v_soughtAt v_foundMany v_foundOrder v_order1 v_placeIn)))
    else (fX9_looksAt_36 N x1 x2 v_soughtBy v_sought v_soughtAt v_foundMany v_foundOrder v_order1 v_placeIn)))
    else (some (v_foundMany, v_foundOrder)))

set_option maxHeartbeats 4000000 in
set_option maxRecDepth 100000 in
theorem ctX9_looksAt {l : Launch} {D : va_G} {cI cL cS cH : ClassId} {a : Nat → Nat} {x1 : Int32} {x2 : Int32} {v_keptMany : Int32} {v_done : Int32} {v_rowsOf : Int32} {v_columnsOf : Int32} {v_folded : Int32} {v_wronged : Int32} {v_tapeMany : Int32} {v_textMany : Int32} {v_base : Int32} {v_at : Int32} {v_ends : Int32} {v_fault : Int32} {v_opened : Int32} {v_bentMany : Int32} {v_bentWrong : Int32} {v_moreWorn : Int32} {v_planned : Int32} {v_allWrong : Int32} {v_allWorn : Int32} {v_z : Int32} {v_wishedField : Int32} {v_isFound : Bool} {v_bestWrong : Int32} {v_bestWorn : Int32} {v_bestMany : Int32} {v_soughtBy : Int32} {v_sought : Int32} {v_soughtAt : Int32} {v_foundMany : Int32} {v_foundOrder : Int32} {v_isKept : Bool} {v_imageRows : Int32} {v_imageColumns : Int32} {v_imageFolded : Int32} {v_imageWronged : Int32} {v_bodies : Int32} {v_ran : Int32} {v_ownKind : Int32} {v_ownNumber : Int32} {v_limit : List Int32} {v_changeWas : List Int32} {v_changeIs : List Int32} {v_shapeRows : List Int32} {v_shapeColumns : List Int32} {v_row : List Int32} {v_column : List Int32} {v_below : List Int32} {v_face : List Int32} {v_worn : List Int32} {v_lastBend : List Int32} {v_tape : List Int32} {v_text : List Int32} {v_names : List Int32} {v_bends : List Int32} {v_high : List Int32} {v_to : List Int32} {v_pileSize : List Int32} {v_planLine : List Int32} {v_planWay : List Int32} {v_way1 : List Int32} {v_bestWay : List Int32} {v_order1 : List Int32} {v_placeIn : List Int32} {v_bodyKind : List Int32} {v_trace : List Int32} {v_shelf : List Int32} {v_many : List Int32} {v_items : List Int64} {v_carried : List Int64} {w_foundMany : Int32} {w_foundOrder : Int32} {N d : Nat} (hd : 4 ≤ d) (hf : fX9_looksAt N x1 x2 v_soughtBy v_sought v_soughtAt v_foundMany v_foundOrder v_order1 v_placeIn = some (w_foundMany, w_foundOrder)) : mm_Ct l yX9_looksAt cX9_looksAt 4 none d D (mm_T cI cL cS cH) [.ref (a 0), .int x1, .int x2] (wd_X9 cI cL cS cH a v_keptMany v_done v_rowsOf v_columnsOf v_folded v_wronged v_tapeMany v_textMany v_base v_at v_ends v_fault v_opened v_bentMany v_bentWrong v_moreWorn v_planned v_allWrong v_allWorn v_z v_wishedField v_isFound v_bestWrong v_bestWorn v_bestMany v_soughtBy v_sought v_soughtAt v_foundMany v_foundOrder v_isKept v_imageRows v_imageColumns v_imageFolded v_imageWronged v_bodies v_ran v_ownKind v_ownNumber v_limit v_changeWas v_changeIs v_shapeRows v_shapeColumns v_row v_column v_below v_face v_worn v_lastBend v_tape v_text v_names v_bends v_high v_to v_pileSize v_planLine v_planWay v_way1 v_bestWay v_order1 v_placeIn v_bodyKind v_trace v_shelf v_many v_items v_carried) (wd_X9 cI cL cS cH a v_keptMany v_done v_rowsOf v_columnsOf v_folded v_wronged v_tapeMany v_textMany v_base v_at v_ends v_fault v_opened v_bentMany v_bentWrong v_moreWorn v_planned v_allWrong v_allWorn v_z v_wishedField v_isFound v_bestWrong v_bestWorn v_bestMany v_soughtBy v_sought v_soughtAt w_foundMany w_foundOrder v_isKept v_imageRows v_imageColumns v_imageFolded v_imageWronged v_bodies v_ran v_ownKind v_ownNumber v_limit v_changeWas v_changeIs v_shapeRows v_shapeColumns v_row v_column v_below v_face v_worn v_lastBend v_tape v_text v_names v_bends v_high v_to v_pileSize v_planLine v_planWay v_way1 v_bestWay v_order1 v_placeIn v_bodyKind v_trace v_shelf v_many v_items v_carried) none := by
  refine mm_of (by decide) (Nat.le_of_ble_eq_true rfl) ?_
  intro p e s m args below meth c A H locs ls C0 hP hD hA hS hl
  have C0 : mm_Cx p s m args meth c RX9 cX9_looksAt 4 none D (mm_T cI cL cS cH) A := C0
  obtain ⟨hx, hb, hml, hown, hts, hr, hlocks, hK, hSt⟩ := id C0
  have hl : lv_has ls 4 [(0, .ref (a 0)), (1, .int x1), (2, .int x2)] := hl
  unfold fX9_looksAt at hf
  refine lv_aload_n hx hb dX9_looksAt_0 rfl (lv_at hl 0 rfl) ?_
  refine lv_iload_n hx hb dX9_looksAt_1 rfl (lv_at hl 1 rfl) ?_
  obtain ⟨r_1, hc_2, hf⟩ := mm_bd1s hf
  refine mm_callVF (q0 := 0) (ci := 9) (rest := []) C0 lk_X9_349 (ctX9_firstCross (a := a) (d := d - 1) (by omega) hc_2) (by omega) rfl hl.1 rfl (mm_cat rfl) dX9_looksAt_2 hP hD hA hS rfl rfl (fun H locs hP hD hS => ?_)
  refine W.eq (g2 := F0 m 5 ls [.int r_1]) rfl ?_
  refine lv_if_lt (tgt := 9) hx hb dX9_looksAt_5 (by decide) (fun c_3 => ?_) (fun c_3 => ?_)
  · have hf := mm_ip hf c_3
    refine lv_aload_n hx hb dX9_looksAt_9 rfl (lv_at hl 0 rfl) ?_
    refine mm_get C0 hP iw_X9 0 rfl rfl 49 (by decide) fl_X9_355 rfl dX9_looksAt_10 ?_
    refine lv_if_eq (tgt := 59) hx hb dX9_looksAt_13 (by decide) (fun c_4 => ?_) (fun c_4 => ?_)
    · have hf := mm_ip hf c_4
      exact tX9_looksAt_59 hd C0 hA N  _ _ _ _ _ _ _ _ H locs ls hf hP hD hS (lv_sub hl [0, 2] rfl)
    · have hf := mm_in hf c_4
      refine lv_aload_n hx hb dX9_looksAt_16 rfl (lv_at hl 0 rfl) ?_
      refine mm_get C0 hP iw_X9 0 rfl rfl 49 (by decide) fl_X9_355 rfl dX9_looksAt_17 ?_
      refine lv_iconst (v := 1) hx hb dX9_looksAt_20 (by decide) ?_
      refine lv_icmp_ne (tgt := 36) hx hb dX9_looksAt_21 (by decide) (fun c_5 => ?_) (fun c_5 => ?_)
      · have hf := mm_in hf c_5
        exact tX9_looksAt_36 hd C0 hA N  _ _ _ _ _ _ _ _ _ H locs ls hf hP hD hS (lv_sub hl [0, 1, 2] rfl)
      · have hf := mm_ip hf c_5
        refine lv_aload_n hx hb dX9_looksAt_24 rfl (lv_at hl 0 rfl) ?_
        refine lv_iload_n hx hb dX9_looksAt_25 rfl (lv_at hl 1 rfl) ?_
        obtain ⟨r_6, hc_7, hf⟩ := mm_bd1s hf
        refine mm_callVF (q0 := 0) (ci := 9) (rest := []) C0 lk_X9_352 (ctX9_bendsOf (a := a) (d := d - 1) (by omega) hc_7) (by omega) rfl hl.1 rfl (mm_cat rfl) dX9_looksAt_26 hP hD hA hS rfl rfl (fun H locs hP hD hS => ?_)
        refine W.eq (g2 := F0 m 29 ls [.int r_6]) rfl ?_
        refine lv_aload_n hx hb dX9_looksAt_29 rfl (lv_at hl 0 rfl) ?_
        refine mm_get C0 hP iw_X9 0 rfl rfl 50 (by decide) fl_X9_358 rfl dX9_looksAt_30 ?_
        refine lv_icmp_eq (tgt := 59) hx hb dX9_looksAt_33 (by decide) (fun c_8 => ?_) (fun c_8 => ?_)
        · have hf := mm_ip hf c_8
          exact tX9_looksAt_59 hd C0 hA N  _ _ _ _ _ _ _ _ H locs ls hf hP hD hS (lv_sub hl [0, 2] rfl)
        · have hf := mm_in hf c_8
          exact tX9_looksAt_36 hd C0 hA N  _ _ _ _ _ _ _ _ _ H locs ls hf hP hD hS (lv_sub hl [0, 1, 2] rfl)
  · have hf := mm_in hf c_3
    apply mm_sub2 hf
    exact mm_vret C0 hP hD hS dX9_looksAt_8

