/-! reference: X9_within, X9_limit, X9_undo, X9_redo, X9_fields, X9_liesFlat, X9_isNew, X9_sheet, X9_isCrease, X9_otherOf -/
theorem dX9_within_0 : decode cX9_within 0 = .ok (.lload_n 0, 1) := by decide +kernel
theorem dX9_within_1 : decode cX9_within 1 = .ok (.lload_n 2, 1) := by decide +kernel
theorem dX9_within_2 : decode cX9_within 2 = .ok (.lcmp, 1) := by decide +kernel
theorem dX9_within_3 : decode cX9_within 3 = .ok (.ifCond .lt 14, 3) := by decide +kernel
theorem dX9_within_6 : decode cX9_within 6 = .ok (.lload_n 0, 1) := by decide +kernel
theorem dX9_within_7 : decode cX9_within 7 = .ok (.lload 4, 2) := by decide +kernel
theorem dX9_within_9 : decode cX9_within 9 = .ok (.lcmp, 1) := by decide +kernel
theorem dX9_within_10 : decode cX9_within 10 = .ok (.ifCond .gt 7, 3) := by decide +kernel
theorem dX9_within_13 : decode cX9_within 13 = .ok (.iconst 1, 1) := by decide +kernel
theorem dX9_within_14 : decode cX9_within 14 = .ok (.goto 4, 3) := by decide +kernel
theorem dX9_within_17 : decode cX9_within 17 = .ok (.iconst 0, 1) := by decide +kernel
theorem dX9_within_18 : decode cX9_within 18 = .ok (.ireturn, 1) := by decide +kernel
def fX9_within (N : Nat) (x0 : Int64) (x2 : Int64) (x4 : Int64) : Option (Bool) :=
    if (lg_cmp x0 x2) < 0 then
    (some (false))
    else (if 0 < (lg_cmp x0 x4) then
    (some (false))
    else (some (true)))

set_option maxHeartbeats 4000000 in
set_option maxRecDepth 100000 in
theorem ctX9_within {l : Launch} {D : va_G} {cI cL cS cH : ClassId} {x0 : Int64} {x2 : Int64} {x4 : Int64}  {r : Bool} {N d : Nat} (hd : 1 ≤ d) (hf : fX9_within N x0 x2 x4 = some r) : mm_Ct l yX9_within cX9_within 6 (some .boolean) d D (mm_T cI cL cS cH) [.long x0, .long x2, .long x4] ([] : va_W) ([] : va_W) (some (.int (mm_b r))) := by
  refine mm_of (by decide) (Nat.le_of_ble_eq_true rfl) ?_
  intro p e s m args below meth c A H locs ls C0 hP hD hA hS hl
  have C0 : mm_Cx p s m args meth c RX9 cX9_within 6 (some .boolean) D (mm_T cI cL cS cH) A := C0
  obtain ⟨hx, hb, hml, hown, hts, hr, hlocks, hK, hSt⟩ := id C0
  have hl : lv_has ls 6 [(0, .long x0), (2, .long x2), (4, .long x4)] := hl
  unfold fX9_within at hf
  refine lv_lload_n hx hb dX9_within_0 rfl (lv_at hl 0 rfl) ?_
  refine lv_lload_n hx hb dX9_within_1 rfl (lv_at hl 1 rfl) ?_
  refine W.lcmp hx hb dX9_within_2 ?_
  refine lv_if_lt (tgt := 17) hx hb dX9_within_3 (by decide) (fun c_1 => ?_) (fun c_1 => ?_)
  · have hf := mm_ip hf c_1
    refine lv_iconst (v := 0) hx hb dX9_within_17 (by decide) ?_
    obtain rfl := mm_inj1 hf
    exact mm_zret (v := false) C0 hP hD hS dX9_within_18 (by decide)
  · have hf := mm_in hf c_1
    refine lv_lload_n hx hb dX9_within_6 rfl (lv_at hl 0 rfl) ?_
    refine lv_lload hx hb dX9_within_7 (lv_at hl 2 rfl) ?_
    refine W.lcmp hx hb dX9_within_9 ?_
    refine lv_if_gt (tgt := 17) hx hb dX9_within_10 (by decide) (fun c_2 => ?_) (fun c_2 => ?_)
    · have hf := mm_ip hf c_2
      refine lv_iconst (v := 0) hx hb dX9_within_17 (by decide) ?_
      obtain rfl := mm_inj1 hf
      exact mm_zret (v := false) C0 hP hD hS dX9_within_18 (by decide)
    · have hf := mm_in hf c_2
      refine lv_iconst (v := 1) hx hb dX9_within_13 (by decide) ?_
      refine lv_goto (tgt := 18) hx hb dX9_within_14 (by decide) ?_
      obtain rfl := mm_inj1 hf
      exact mm_zret (v := true) C0 hP hD hS dX9_within_18 (by decide)

theorem dX9_limit_0 : decode cX9_limit 0 = .ok (.iload_n 1, 1) := by decide +kernel
theorem dX9_limit_1 : decode cX9_limit 1 = .ok (.i2l, 1) := by decide +kernel
theorem dX9_limit_2 : decode cX9_limit 2 = .ok (.lconst 1, 1) := by decide +kernel
theorem dX9_limit_3 : decode cX9_limit 3 = .ok (.ldc2_w 109, 3) := by decide +kernel
theorem dX9_limit_6 : decode cX9_limit 6 = .ok (.invokestatic 111, 3) := by decide +kernel
theorem dX9_limit_9 : decode cX9_limit 9 = .ok (.ifCond .ne 5, 3) := by decide +kernel
theorem dX9_limit_12 : decode cX9_limit 12 = .ok (.iconst (-1), 1) := by decide +kernel
theorem dX9_limit_13 : decode cX9_limit 13 = .ok (.ireturn, 1) := by decide +kernel
theorem dX9_limit_14 : decode cX9_limit 14 = .ok (.aload_n 0, 1) := by decide +kernel
theorem dX9_limit_15 : decode cX9_limit 15 = .ok (.getfield 7, 3) := by decide +kernel
theorem dX9_limit_18 : decode cX9_limit 18 = .ok (.iconst 0, 1) := by decide +kernel
theorem dX9_limit_19 : decode cX9_limit 19 = .ok (.iaload, 1) := by decide +kernel
theorem dX9_limit_20 : decode cX9_limit 20 = .ok (.istore_n 2, 1) := by decide +kernel
theorem dX9_limit_21 : decode cX9_limit 21 = .ok (.iload_n 2, 1) := by decide +kernel
theorem dX9_limit_22 : decode cX9_limit 22 = .ok (.iload_n 1, 1) := by decide +kernel
theorem dX9_limit_23 : decode cX9_limit 23 = .ok (.if_icmp .ne 5, 3) := by decide +kernel
theorem dX9_limit_26 : decode cX9_limit 26 = .ok (.iload_n 2, 1) := by decide +kernel
theorem dX9_limit_27 : decode cX9_limit 27 = .ok (.ireturn, 1) := by decide +kernel
theorem dX9_limit_28 : decode cX9_limit 28 = .ok (.aload_n 0, 1) := by decide +kernel
theorem dX9_limit_29 : decode cX9_limit 29 = .ok (.getfield 115, 3) := by decide +kernel
theorem dX9_limit_32 : decode cX9_limit 32 = .ok (.bipush 40, 2) := by decide +kernel
theorem dX9_limit_34 : decode cX9_limit 34 = .ok (.if_icmp .ne 55, 3) := by decide +kernel
theorem dX9_limit_37 : decode cX9_limit 37 = .ok (.iconst 1, 1) := by decide +kernel
theorem dX9_limit_38 : decode cX9_limit 38 = .ok (.istore_n 3, 1) := by decide +kernel
theorem dX9_limit_39 : decode cX9_limit 39 = .ok (.iload_n 3, 1) := by decide +kernel
theorem dX9_limit_40 : decode cX9_limit 40 = .ok (.bipush 40, 2) := by decide +kernel
theorem dX9_limit_42 : decode cX9_limit 42 = .ok (.if_icmp .ge 37, 3) := by decide +kernel
theorem dX9_limit_45 : decode cX9_limit 45 = .ok (.aload_n 0, 1) := by decide +kernel
theorem dX9_limit_46 : decode cX9_limit 46 = .ok (.getfield 13, 3) := by decide +kernel
theorem dX9_limit_49 : decode cX9_limit 49 = .ok (.iload_n 3, 1) := by decide +kernel
theorem dX9_limit_50 : decode cX9_limit 50 = .ok (.iconst 1, 1) := by decide +kernel
theorem dX9_limit_51 : decode cX9_limit 51 = .ok (.isub, 1) := by decide +kernel
theorem dX9_limit_52 : decode cX9_limit 52 = .ok (.aload_n 0, 1) := by decide +kernel
theorem dX9_limit_53 : decode cX9_limit 53 = .ok (.getfield 13, 3) := by decide +kernel
theorem dX9_limit_56 : decode cX9_limit 56 = .ok (.iload_n 3, 1) := by decide +kernel
theorem dX9_limit_57 : decode cX9_limit 57 = .ok (.iaload, 1) := by decide +kernel
theorem dX9_limit_58 : decode cX9_limit 58 = .ok (.iastore, 1) := by decide +kernel
theorem dX9_limit_59 : decode cX9_limit 59 = .ok (.aload_n 0, 1) := by decide +kernel
theorem dX9_limit_60 : decode cX9_limit 60 = .ok (.getfield 16, 3) := by decide +kernel
theorem dX9_limit_63 : decode cX9_limit 63 = .ok (.iload_n 3, 1) := by decide +kernel
theorem dX9_limit_64 : decode cX9_limit 64 = .ok (.iconst 1, 1) := by decide +kernel
theorem dX9_limit_65 : decode cX9_limit 65 = .ok (.isub, 1) := by decide +kernel
theorem dX9_limit_66 : decode cX9_limit 66 = .ok (.aload_n 0, 1) := by decide +kernel
theorem dX9_limit_67 : decode cX9_limit 67 = .ok (.getfield 16, 3) := by decide +kernel
theorem dX9_limit_70 : decode cX9_limit 70 = .ok (.iload_n 3, 1) := by decide +kernel
theorem dX9_limit_71 : decode cX9_limit 71 = .ok (.iaload, 1) := by decide +kernel
theorem dX9_limit_72 : decode cX9_limit 72 = .ok (.iastore, 1) := by decide +kernel
theorem dX9_limit_73 : decode cX9_limit 73 = .ok (.iinc 3 1, 3) := by decide +kernel
theorem dX9_limit_76 : decode cX9_limit 76 = .ok (.goto (-37), 3) := by decide +kernel
theorem dX9_limit_79 : decode cX9_limit 79 = .ok (.aload_n 0, 1) := by decide +kernel
theorem dX9_limit_80 : decode cX9_limit 80 = .ok (.dup, 1) := by decide +kernel
theorem dX9_limit_81 : decode cX9_limit 81 = .ok (.getfield 115, 3) := by decide +kernel
theorem dX9_limit_84 : decode cX9_limit 84 = .ok (.iconst 1, 1) := by decide +kernel
theorem dX9_limit_85 : decode cX9_limit 85 = .ok (.isub, 1) := by decide +kernel
theorem dX9_limit_86 : decode cX9_limit 86 = .ok (.putfield 115, 3) := by decide +kernel
theorem dX9_limit_89 : decode cX9_limit 89 = .ok (.aload_n 0, 1) := by decide +kernel
theorem dX9_limit_90 : decode cX9_limit 90 = .ok (.getfield 13, 3) := by decide +kernel
theorem dX9_limit_93 : decode cX9_limit 93 = .ok (.aload_n 0, 1) := by decide +kernel
theorem dX9_limit_94 : decode cX9_limit 94 = .ok (.getfield 115, 3) := by decide +kernel
theorem dX9_limit_97 : decode cX9_limit 97 = .ok (.iload_n 2, 1) := by decide +kernel
theorem dX9_limit_98 : decode cX9_limit 98 = .ok (.iastore, 1) := by decide +kernel
theorem dX9_limit_99 : decode cX9_limit 99 = .ok (.aload_n 0, 1) := by decide +kernel
theorem dX9_limit_100 : decode cX9_limit 100 = .ok (.getfield 16, 3) := by decide +kernel
theorem dX9_limit_103 : decode cX9_limit 103 = .ok (.aload_n 0, 1) := by decide +kernel
theorem dX9_limit_104 : decode cX9_limit 104 = .ok (.getfield 115, 3) := by decide +kernel
theorem dX9_limit_107 : decode cX9_limit 107 = .ok (.iload_n 1, 1) := by decide +kernel
theorem dX9_limit_108 : decode cX9_limit 108 = .ok (.iastore, 1) := by decide +kernel
theorem dX9_limit_109 : decode cX9_limit 109 = .ok (.aload_n 0, 1) := by decide +kernel
theorem dX9_limit_110 : decode cX9_limit 110 = .ok (.dup, 1) := by decide +kernel
theorem dX9_limit_111 : decode cX9_limit 111 = .ok (.getfield 115, 3) := by decide +kernel
theorem dX9_limit_114 : decode cX9_limit 114 = .ok (.iconst 1, 1) := by decide +kernel
theorem dX9_limit_115 : decode cX9_limit 115 = .ok (.iadd, 1) := by decide +kernel
theorem dX9_limit_116 : decode cX9_limit 116 = .ok (.putfield 115, 3) := by decide +kernel
theorem dX9_limit_119 : decode cX9_limit 119 = .ok (.aload_n 0, 1) := by decide +kernel
theorem dX9_limit_120 : decode cX9_limit 120 = .ok (.aload_n 0, 1) := by decide +kernel
theorem dX9_limit_121 : decode cX9_limit 121 = .ok (.getfield 115, 3) := by decide +kernel
theorem dX9_limit_124 : decode cX9_limit 124 = .ok (.putfield 118, 3) := by decide +kernel
theorem dX9_limit_127 : decode cX9_limit 127 = .ok (.aload_n 0, 1) := by decide +kernel
theorem dX9_limit_128 : decode cX9_limit 128 = .ok (.getfield 7, 3) := by decide +kernel
theorem dX9_limit_131 : decode cX9_limit 131 = .ok (.iconst 0, 1) := by decide +kernel
theorem dX9_limit_132 : decode cX9_limit 132 = .ok (.iload_n 1, 1) := by decide +kernel
theorem dX9_limit_133 : decode cX9_limit 133 = .ok (.iastore, 1) := by decide +kernel
theorem dX9_limit_134 : decode cX9_limit 134 = .ok (.iload_n 2, 1) := by decide +kernel
theorem dX9_limit_135 : decode cX9_limit 135 = .ok (.ireturn, 1) := by decide +kernel
def fX9_limit_89 (N : Nat)  (x1 : Int32) (x2 : Int32) (v_keptMany : Int32) (v_done : Int32) (v_limit : List Int32) (v_changeWas : List Int32) (v_changeIs : List Int32) : Option (Int32 × Int32 × Int32 × List Int32 × List Int32 × List Int32) :=
    mm_ck (mm_inb v_done v_changeWas.length) (mm_nm (mm_is v_changeWas v_done x2) (fun (l_20 : List Int32) =>
    mm_ck (mm_inb v_done v_changeIs.length) (mm_nm (mm_is v_changeIs v_done x1) (fun (l_22 : List Int32) =>
    mm_nm ((v_done + (1 : Int32))) (fun (y_23 : Int32) =>
    mm_ck (mm_inb (0 : Int32) v_limit.length) (mm_nm (mm_is v_limit (0 : Int32) x1) (fun (l_25 : List Int32) =>
    some (x2, y_23, y_23, l_25, l_20, l_22))))))))

set_option maxHeartbeats 4000000 in
set_option maxRecDepth 100000 in
theorem tX9_limit_89 {p : Program} {l : Launch} {e : Env} {s : State} {m : MethodId} {args : Array Value} {below : List Frame} {meth : Method} {c : Code} {D : va_G} {cI cL cS cH : ClassId} {A : Nat → Prop} {d : Nat} {a : Nat → Nat} (hd : 2 ≤ d) (C0 : mm_Cx p s m args meth c RX9 cX9_limit 4 (some .int) D (mm_T cI cL cS cH) A) (hA : ∀ q, s.heap.size ≤ q → A q) {v_rowsOf : Int32} {v_columnsOf : Int32} {v_folded : Int32} {v_wronged : Int32} {v_tapeMany : Int32} {v_textMany : Int32} {v_base : Int32} {v_at : Int32} {v_ends : Int32} {v_fault : Int32} {v_opened : Int32} {v_bentMany : Int32} {v_bentWrong : Int32} {v_moreWorn : Int32} {v_planned : Int32} {v_allWrong : Int32} {v_allWorn : Int32} {v_z : Int32} {v_wishedField : Int32} {v_isFound : Bool} {v_bestWrong : Int32} {v_bestWorn : Int32} {v_bestMany : Int32} {v_soughtBy : Int32} {v_sought : Int32} {v_soughtAt : Int32} {v_foundMany : Int32} {v_foundOrder : Int32} {v_isKept : Bool} {v_imageRows : Int32} {v_imageColumns : Int32} {v_imageFolded : Int32} {v_imageWronged : Int32} {v_bodies : Int32} {v_ran : Int32} {v_ownKind : Int32} {v_ownNumber : Int32} {v_shapeRows : List Int32} {v_shapeColumns : List Int32} {v_row : List Int32} {v_column : List Int32} {v_below : List Int32} {v_face : List Int32} {v_worn : List Int32} {v_lastBend : List Int32} {v_tape : List Int32} {v_text : List Int32} {v_names : List Int32} {v_bends : List Int32} {v_high : List Int32} {v_to : List Int32} {v_pileSize : List Int32} {v_planLine : List Int32} {v_planWay : List Int32} {v_way1 : List Int32} {v_bestWay : List Int32} {v_order1 : List Int32} {v_placeIn : List Int32} {v_bodyKind : List Int32} {v_trace : List Int32} {v_shelf : List Int32} {v_many : List Int32} {v_items : List Int64} {v_carried : List Int64} {r : Int32} {w_keptMany : Int32} {w_done : Int32} {w_limit : List Int32} {w_changeWas : List Int32} {w_changeIs : List Int32} (N : Nat)  : ∀ (x1 : Int32) (x2 : Int32) (v_keptMany : Int32) (v_done : Int32) (v_limit : List Int32) (v_changeWas : List Int32) (v_changeIs : List Int32) (H : Heap) (locs : List Loc) (ls : Array Slot), fX9_limit_89 N x1 x2 v_keptMany v_done v_limit v_changeWas v_changeIs = some (r, w_keptMany, w_done, w_limit, w_changeWas, w_changeIs) → va_P D mm_cl (wd_X9 cI cL cS cH a v_keptMany v_done v_rowsOf v_columnsOf v_folded v_wronged v_tapeMany v_textMany v_base v_at v_ends v_fault v_opened v_bentMany v_bentWrong v_moreWorn v_planned v_allWrong v_allWorn v_z v_wishedField v_isFound v_bestWrong v_bestWorn v_bestMany v_soughtBy v_sought v_soughtAt v_foundMany v_foundOrder v_isKept v_imageRows v_imageColumns v_imageFolded v_imageWronged v_bodies v_ran v_ownKind v_ownNumber v_limit v_changeWas v_changeIs v_shapeRows v_shapeColumns v_row v_column v_below v_face v_worn v_lastBend v_tape v_text v_names v_bends v_high v_to v_pileSize v_planLine v_planWay v_way1 v_bestWay v_order1 v_placeIn v_bodyKind v_trace v_shelf v_many v_items v_carried) H → va_D A (wd_X9 cI cL cS cH a v_keptMany v_done v_rowsOf v_columnsOf v_folded v_wronged v_tapeMany v_textMany v_base v_at v_ends v_fault v_opened v_bentMany v_bentWrong v_moreWorn v_planned v_allWrong v_allWorn v_z v_wishedField v_isFound v_bestWrong v_bestWorn v_bestMany v_soughtBy v_sought v_soughtAt v_foundMany v_foundOrder v_isKept v_imageRows v_imageColumns v_imageFolded v_imageWronged v_bodies v_ran v_ownKind v_ownNumber v_limit v_changeWas v_changeIs v_shapeRows v_shapeColumns v_row v_column v_below v_face v_worn v_lastBend v_tape v_text v_names v_bends v_high v_to v_pileSize v_planLine v_planWay v_way1 v_bestWay v_order1 v_placeIn v_bodyKind v_trace v_shelf v_many v_items v_carried) → va_S A s.heap H locs → lv_has ls 4 [(0, .ref (a 0)), (1, .int x1), (2, .int x2)] → W p l e (mm_rr d) s m args below meth c H locs 0 0 (mm_Z below D A (wd_X9 cI cL cS cH a w_keptMany w_done v_rowsOf v_columnsOf v_folded v_wronged v_tapeMany v_textMany v_base v_at v_ends v_fault v_opened v_bentMany v_bentWrong v_moreWorn v_planned v_allWrong v_allWorn v_z v_wishedField v_isFound v_bestWrong v_bestWorn v_bestMany v_soughtBy v_sought v_soughtAt v_foundMany v_foundOrder v_isKept v_imageRows v_imageColumns v_imageFolded v_imageWronged v_bodies v_ran v_ownKind v_ownNumber w_limit w_changeWas w_changeIs v_shapeRows v_shapeColumns v_row v_column v_below v_face v_worn v_lastBend v_tape v_text v_names v_bends v_high v_to v_pileSize v_planLine v_planWay v_way1 v_bestWay v_order1 v_placeIn v_bodyKind v_trace v_shelf v_many v_items v_carried) (some (.int r)) args s) (F0 m 89 ls []) := by
  obtain ⟨hx, hb, hml, hown, hts, hr, hlocks, hK, hSt⟩ := id C0
  intro x1 x2 v_keptMany v_done v_limit v_changeWas v_changeIs H locs ls hf hP hD hS hl
  unfold fX9_limit_89 at hf
  refine lv_aload_n hx hb dX9_limit_89 rfl (lv_at hl 0 rfl) ?_
  refine mm_get C0 hP iw_X9 0 rfl rfl 1 (by decide) fl_X9_13 rfl dX9_limit_90 ?_
  refine lv_aload_n hx hb dX9_limit_93 rfl (lv_at hl 0 rfl) ?_
  refine mm_get C0 hP iw_X9 0 rfl rfl 4 (by decide) fl_X9_115 rfl dX9_limit_94 ?_
  refine lv_iload_n hx hb dX9_limit_97 rfl (lv_at hl 2 rfl) ?_
  obtain ⟨h_19, hf⟩ := mm_cks hf
  refine mm_iast C0 hP hD hS 2 rfl h_19 dX9_limit_98 (w2 := (wd_X9 cI cL cS cH a v_keptMany v_done v_rowsOf v_columnsOf v_folded v_wronged v_tapeMany v_textMany v_base v_at v_ends v_fault v_opened v_bentMany v_bentWrong v_moreWorn v_planned v_allWrong v_allWorn v_z v_wishedField v_isFound v_bestWrong v_bestWorn v_bestMany v_soughtBy v_sought v_soughtAt v_foundMany v_foundOrder v_isKept v_imageRows v_imageColumns v_imageFolded v_imageWronged v_bodies v_ran v_ownKind v_ownNumber v_limit (mm_is v_changeWas v_done x2) v_changeIs v_shapeRows v_shapeColumns v_row v_column v_below v_face v_worn v_lastBend v_tape v_text v_names v_bends v_high v_to v_pileSize v_planLine v_planWay v_way1 v_bestWay v_order1 v_placeIn v_bodyKind v_trace v_shelf v_many v_items v_carried)) rfl (fun H locs hP hD hS => ?_)
  generalize el_20 : (mm_is v_changeWas v_done x2) = l_20 at hP hD
  have hf := mm_nms hf el_20.symm
  refine lv_aload_n hx hb dX9_limit_99 rfl (lv_at hl 0 rfl) ?_
  refine mm_get C0 hP iw_X9 0 rfl rfl 2 (by decide) fl_X9_16 rfl dX9_limit_100 ?_
  refine lv_aload_n hx hb dX9_limit_103 rfl (lv_at hl 0 rfl) ?_
  refine mm_get C0 hP iw_X9 0 rfl rfl 4 (by decide) fl_X9_115 rfl dX9_limit_104 ?_
  refine lv_iload_n hx hb dX9_limit_107 rfl (lv_at hl 1 rfl) ?_
  obtain ⟨h_21, hf⟩ := mm_cks hf
  refine mm_iast C0 hP hD hS 3 rfl h_21 dX9_limit_108 (w2 := (wd_X9 cI cL cS cH a v_keptMany v_done v_rowsOf v_columnsOf v_folded v_wronged v_tapeMany v_textMany v_base v_at v_ends v_fault v_opened v_bentMany v_bentWrong v_moreWorn v_planned v_allWrong v_allWorn v_z v_wishedField v_isFound v_bestWrong v_bestWorn v_bestMany v_soughtBy v_sought v_soughtAt v_foundMany v_foundOrder v_isKept v_imageRows v_imageColumns v_imageFolded v_imageWronged v_bodies v_ran v_ownKind v_ownNumber v_limit l_20 (mm_is v_changeIs v_done x1) v_shapeRows v_shapeColumns v_row v_column v_below v_face v_worn v_lastBend v_tape v_text v_names v_bends v_high v_to v_pileSize v_planLine v_planWay v_way1 v_bestWay v_order1 v_placeIn v_bodyKind v_trace v_shelf v_many v_items v_carried)) rfl (fun H locs hP hD hS => ?_)
  generalize el_22 : (mm_is v_changeIs v_done x1) = l_22 at hP hD
  have hf := mm_nms hf el_22.symm
  refine lv_aload_n hx hb dX9_limit_109 rfl (lv_at hl 0 rfl) ?_
  refine lv_dup hx hb dX9_limit_110 rfl ?_
  refine mm_get C0 hP iw_X9 0 rfl rfl 4 (by decide) fl_X9_115 rfl dX9_limit_111 ?_
  refine lv_iconst (v := 1) hx hb dX9_limit_114 (by decide) ?_
  refine lv_iadd hx hb dX9_limit_115 ?_
  refine lv_topi (fun y_23 ey_23 => ?_)
  have hf := mm_nms hf ey_23
  refine mm_put C0 hP hD hS iw_X9 tyX9 tyX9_ok nmX9 0 rfl rfl 4 (by decide) fl_X9_115 rfl rfl rfl (Nat.le_of_ble_eq_true rfl) dX9_limit_116 (w2 := (wd_X9 cI cL cS cH a v_keptMany y_23 v_rowsOf v_columnsOf v_folded v_wronged v_tapeMany v_textMany v_base v_at v_ends v_fault v_opened v_bentMany v_bentWrong v_moreWorn v_planned v_allWrong v_allWorn v_z v_wishedField v_isFound v_bestWrong v_bestWorn v_bestMany v_soughtBy v_sought v_soughtAt v_foundMany v_foundOrder v_isKept v_imageRows v_imageColumns v_imageFolded v_imageWronged v_bodies v_ran v_ownKind v_ownNumber v_limit l_20 l_22 v_shapeRows v_shapeColumns v_row v_column v_below v_face v_worn v_lastBend v_tape v_text v_names v_bends v_high v_to v_pileSize v_planLine v_planWay v_way1 v_bestWay v_order1 v_placeIn v_bodyKind v_trace v_shelf v_many v_items v_carried)) rfl (fun H locs hP hD hS => ?_)
  refine lv_aload_n hx hb dX9_limit_119 rfl (lv_at hl 0 rfl) ?_
  refine lv_aload_n hx hb dX9_limit_120 rfl (lv_at hl 0 rfl) ?_
  refine mm_get C0 hP iw_X9 0 rfl rfl 4 (by decide) fl_X9_115 rfl dX9_limit_121 ?_
  refine mm_put C0 hP hD hS iw_X9 tyX9 tyX9_ok nmX9 0 rfl rfl 3 (by decide) fl_X9_118 rfl rfl rfl (Nat.le_of_ble_eq_true rfl) dX9_limit_124 (w2 := (wd_X9 cI cL cS cH a y_23 y_23 v_rowsOf v_columnsOf v_folded v_wronged v_tapeMany v_textMany v_base v_at v_ends v_fault v_opened v_bentMany v_bentWrong v_moreWorn v_planned v_allWrong v_allWorn v_z v_wishedField v_isFound v_bestWrong v_bestWorn v_bestMany v_soughtBy v_sought v_soughtAt v_foundMany v_foundOrder v_isKept v_imageRows v_imageColumns v_imageFolded v_imageWronged v_bodies v_ran v_ownKind v_ownNumber v_limit l_20 l_22 v_shapeRows v_shapeColumns v_row v_column v_below v_face v_worn v_lastBend v_tape v_text v_names v_bends v_high v_to v_pileSize v_planLine v_planWay v_way1 v_bestWay v_order1 v_placeIn v_bodyKind v_trace v_shelf v_many v_items v_carried)) rfl (fun H locs hP hD hS => ?_)
  refine lv_aload_n hx hb dX9_limit_127 rfl (lv_at hl 0 rfl) ?_
  refine mm_get C0 hP iw_X9 0 rfl rfl 0 (by decide) fl_X9_7 rfl dX9_limit_128 ?_
  refine lv_iconst (v := 0) hx hb dX9_limit_131 (by decide) ?_
  refine lv_iload_n hx hb dX9_limit_132 rfl (lv_at hl 1 rfl) ?_
  obtain ⟨h_24, hf⟩ := mm_cks hf
  refine mm_iast C0 hP hD hS 1 rfl h_24 dX9_limit_133 (w2 := (wd_X9 cI cL cS cH a y_23 y_23 v_rowsOf v_columnsOf v_folded v_wronged v_tapeMany v_textMany v_base v_at v_ends v_fault v_opened v_bentMany v_bentWrong v_moreWorn v_planned v_allWrong v_allWorn v_z v_wishedField v_isFound v_bestWrong v_bestWorn v_bestMany v_soughtBy v_sought v_soughtAt v_foundMany v_foundOrder v_isKept v_imageRows v_imageColumns v_imageFolded v_imageWronged v_bodies v_ran v_ownKind v_ownNumber (mm_is v_limit (0 : Int32) x1) l_20 l_22 v_shapeRows v_shapeColumns v_row v_column v_below v_face v_worn v_lastBend v_tape v_text v_names v_bends v_high v_to v_pileSize v_planLine v_planWay v_way1 v_bestWay v_order1 v_placeIn v_bodyKind v_trace v_shelf v_many v_items v_carried)) rfl (fun H locs hP hD hS => ?_)
  generalize el_25 : (mm_is v_limit (0 : Int32) x1) = l_25 at hP hD
  have hf := mm_nms hf el_25.symm
  refine lv_iload_n hx hb dX9_limit_134 rfl (lv_at hl 2 rfl) ?_
  apply mm_sub6 hf
  exact mm_iret C0 hP hD hS dX9_limit_135

def fX9_limit_39 (N : Nat)  : Nat → Int32 → Int32 → Int32 → Int32 → Int32 → List Int32 → List Int32 → List Int32 → Option (Int32 × Int32 × Int32 × List Int32 × List Int32 × List Int32)
  | 0 => fun _ _ _ _ _ _ _ _ => none
  | n + 1 => fun x1 x2 x3 v_keptMany v_done v_limit v_changeWas v_changeIs =>
    if (40 : Int32) ≤ x3 then
    (mm_nm ((v_done - (1 : Int32))) (fun (y_9 : Int32) =>
    fX9_limit_89 N x1 x2 v_keptMany y_9 v_limit v_changeWas v_changeIs))
    else (mm_ck (mm_inb x3 v_changeWas.length) (mm_nm ((mm_ig v_changeWas x3)) (fun (y_11 : Int32) =>
    mm_ck (mm_inb (x3 - (1 : Int32)) v_changeWas.length) (mm_nm (mm_is v_changeWas (x3 - (1 : Int32)) y_11) (fun (l_13 : List Int32) =>
    mm_ck (mm_inb x3 v_changeIs.length) (mm_nm ((mm_ig v_changeIs x3)) (fun (y_15 : Int32) =>
    mm_ck (mm_inb (x3 - (1 : Int32)) v_changeIs.length) (mm_nm (mm_is v_changeIs (x3 - (1 : Int32)) y_15) (fun (l_17 : List Int32) =>
    mm_nm (x3 + (1 : Int32)) (fun (y_18 : Int32) =>
    fX9_limit_39 N n x1 x2 y_18 v_keptMany v_done v_limit l_13 l_17))))))))))

set_option maxHeartbeats 4000000 in
set_option maxRecDepth 100000 in
theorem tX9_limit_39 {p : Program} {l : Launch} {e : Env} {s : State} {m : MethodId} {args : Array Value} {below : List Frame} {meth : Method} {c : Code} {D : va_G} {cI cL cS cH : ClassId} {A : Nat → Prop} {d : Nat} {a : Nat → Nat} (hd : 2 ≤ d) (C0 : mm_Cx p s m args meth c RX9 cX9_limit 4 (some .int) D (mm_T cI cL cS cH) A) (hA : ∀ q, s.heap.size ≤ q → A q) {v_rowsOf : Int32} {v_columnsOf : Int32} {v_folded : Int32} {v_wronged : Int32} {v_tapeMany : Int32} {v_textMany : Int32} {v_base : Int32} {v_at : Int32} {v_ends : Int32} {v_fault : Int32} {v_opened : Int32} {v_bentMany : Int32} {v_bentWrong : Int32} {v_moreWorn : Int32} {v_planned : Int32} {v_allWrong : Int32} {v_allWorn : Int32} {v_z : Int32} {v_wishedField : Int32} {v_isFound : Bool} {v_bestWrong : Int32} {v_bestWorn : Int32} {v_bestMany : Int32} {v_soughtBy : Int32} {v_sought : Int32} {v_soughtAt : Int32} {v_foundMany : Int32} {v_foundOrder : Int32} {v_isKept : Bool} {v_imageRows : Int32} {v_imageColumns : Int32} {v_imageFolded : Int32} {v_imageWronged : Int32} {v_bodies : Int32} {v_ran : Int32} {v_ownKind : Int32} {v_ownNumber : Int32} {v_shapeRows : List Int32} {v_shapeColumns : List Int32} {v_row : List Int32} {v_column : List Int32} {v_below : List Int32} {v_face : List Int32} {v_worn : List Int32} {v_lastBend : List Int32} {v_tape : List Int32} {v_text : List Int32} {v_names : List Int32} {v_bends : List Int32} {v_high : List Int32} {v_to : List Int32} {v_pileSize : List Int32} {v_planLine : List Int32} {v_planWay : List Int32} {v_way1 : List Int32} {v_bestWay : List Int32} {v_order1 : List Int32} {v_placeIn : List Int32} {v_bodyKind : List Int32} {v_trace : List Int32} {v_shelf : List Int32} {v_many : List Int32} {v_items : List Int64} {v_carried : List Int64} {r : Int32} {w_keptMany : Int32} {w_done : Int32} {w_limit : List Int32} {w_changeWas : List Int32} {w_changeIs : List Int32} (N : Nat)  : ∀ (n : Nat), ∀ (x1 : Int32) (x2 : Int32) (x3 : Int32) (v_keptMany : Int32) (v_done : Int32) (v_limit : List Int32) (v_changeWas : List Int32) (v_changeIs : List Int32) (H : Heap) (locs : List Loc) (ls : Array Slot), fX9_limit_39 N n x1 x2 x3 v_keptMany v_done v_limit v_changeWas v_changeIs = some (r, w_keptMany, w_done, w_limit, w_changeWas, w_changeIs) → va_P D mm_cl (wd_X9 cI cL cS cH a v_keptMany v_done v_rowsOf v_columnsOf v_folded v_wronged v_tapeMany v_textMany v_base v_at v_ends v_fault v_opened v_bentMany v_bentWrong v_moreWorn v_planned v_allWrong v_allWorn v_z v_wishedField v_isFound v_bestWrong v_bestWorn v_bestMany v_soughtBy v_sought v_soughtAt v_foundMany v_foundOrder v_isKept v_imageRows v_imageColumns v_imageFolded v_imageWronged v_bodies v_ran v_ownKind v_ownNumber v_limit v_changeWas v_changeIs v_shapeRows v_shapeColumns v_row v_column v_below v_face v_worn v_lastBend v_tape v_text v_names v_bends v_high v_to v_pileSize v_planLine v_planWay v_way1 v_bestWay v_order1 v_placeIn v_bodyKind v_trace v_shelf v_many v_items v_carried) H → va_D A (wd_X9 cI cL cS cH a v_keptMany v_done v_rowsOf v_columnsOf v_folded v_wronged v_tapeMany v_textMany v_base v_at v_ends v_fault v_opened v_bentMany v_bentWrong v_moreWorn v_planned v_allWrong v_allWorn v_z v_wishedField v_isFound v_bestWrong v_bestWorn v_bestMany v_soughtBy v_sought v_soughtAt v_foundMany v_foundOrder v_isKept v_imageRows v_imageColumns v_imageFolded v_imageWronged v_bodies v_ran v_ownKind v_ownNumber v_limit v_changeWas v_changeIs v_shapeRows v_shapeColumns v_row v_column v_below v_face v_worn v_lastBend v_tape v_text v_names v_bends v_high v_to v_pileSize v_planLine v_planWay v_way1 v_bestWay v_order1 v_placeIn v_bodyKind v_trace v_shelf v_many v_items v_carried) → va_S A s.heap H locs → lv_has ls 4 [(0, .ref (a 0)), (1, .int x1), (2, .int x2), (3, .int x3)] → W p l e (mm_rr d) s m args below meth c H locs 0 0 (mm_Z below D A (wd_X9 cI cL cS cH a w_keptMany w_done v_rowsOf v_columnsOf v_folded v_wronged v_tapeMany v_textMany v_base v_at v_ends v_fault v_opened v_bentMany v_bentWrong v_moreWorn v_planned v_allWrong v_allWorn v_z v_wishedField v_isFound v_bestWrong v_bestWorn v_bestMany v_soughtBy v_sought v_soughtAt v_foundMany v_foundOrder v_isKept v_imageRows v_imageColumns v_imageFolded v_imageWronged v_bodies v_ran v_ownKind v_ownNumber w_limit w_changeWas w_changeIs v_shapeRows v_shapeColumns v_row v_column v_below v_face v_worn v_lastBend v_tape v_text v_names v_bends v_high v_to v_pileSize v_planLine v_planWay v_way1 v_bestWay v_order1 v_placeIn v_bodyKind v_trace v_shelf v_many v_items v_carried) (some (.int r)) args s) (F0 m 39 ls []) := by
  obtain ⟨hx, hb, hml, hown, hts, hr, hlocks, hK, hSt⟩ := id C0
  intro n
  induction n with
  | zero =>
    intro x1 x2 x3 v_keptMany v_done v_limit v_changeWas v_changeIs H locs ls hf
    cases (show none = some _ from hf)
  | succ n ih =>
    intro x1 x2 x3 v_keptMany v_done v_limit v_changeWas v_changeIs H locs ls hf hP hD hS hl
    unfold fX9_limit_39 at hf
    refine lv_iload_n hx hb dX9_limit_39 rfl (lv_at hl 3 rfl) ?_
    refine lv_bipush (v := 40) hx hb dX9_limit_40 (by decide) ?_
    refine lv_icmp_ge (tgt := 79) hx hb dX9_limit_42 (by decide) (fun c_8 => ?_) (fun c_8 => ?_)
    · have hf := mm_ip hf c_8
      refine lv_aload_n hx hb dX9_limit_79 rfl (lv_at hl 0 rfl) ?_
      refine lv_dup hx hb dX9_limit_80 rfl ?_
      refine mm_get C0 hP iw_X9 0 rfl rfl 4 (by decide) fl_X9_115 rfl dX9_limit_81 ?_
      refine lv_iconst (v := 1) hx hb dX9_limit_84 (by decide) ?_
      refine lv_isub hx hb dX9_limit_85 ?_
      refine lv_topi (fun y_9 ey_9 => ?_)
      have hf := mm_nms hf ey_9
      refine mm_put C0 hP hD hS iw_X9 tyX9 tyX9_ok nmX9 0 rfl rfl 4 (by decide) fl_X9_115 rfl rfl rfl (Nat.le_of_ble_eq_true rfl) dX9_limit_86 (w2 := (wd_X9 cI cL cS cH a v_keptMany y_9 v_rowsOf v_columnsOf v_folded v_wronged v_tapeMany v_textMany v_base v_at v_ends v_fault v_opened v_bentMany v_bentWrong v_moreWorn v_planned v_allWrong v_allWorn v_z v_wishedField v_isFound v_bestWrong v_bestWorn v_bestMany v_soughtBy v_sought v_soughtAt v_foundMany v_foundOrder v_isKept v_imageRows v_imageColumns v_imageFolded v_imageWronged v_bodies v_ran v_ownKind v_ownNumber v_limit v_changeWas v_changeIs v_shapeRows v_shapeColumns v_row v_column v_below v_face v_worn v_lastBend v_tape v_text v_names v_bends v_high v_to v_pileSize v_planLine v_planWay v_way1 v_bestWay v_order1 v_placeIn v_bodyKind v_trace v_shelf v_many v_items v_carried)) rfl (fun H locs hP hD hS => ?_)
      exact tX9_limit_89 hd C0 hA N  _ _ _ _ _ _ _ H locs ls hf hP hD hS (lv_sub hl [0, 1, 2] rfl)
    · have hf := mm_in hf c_8
      refine lv_aload_n hx hb dX9_limit_45 rfl (lv_at hl 0 rfl) ?_
      refine mm_get C0 hP iw_X9 0 rfl rfl 1 (by decide) fl_X9_13 rfl dX9_limit_46 ?_
      refine lv_iload_n hx hb dX9_limit_49 rfl (lv_at hl 3 rfl) ?_
      refine lv_iconst (v := 1) hx hb dX9_limit_50 (by decide) ?_
      refine lv_isub hx hb dX9_limit_51 ?_
      refine lv_aload_n hx hb dX9_limit_52 rfl (lv_at hl 0 rfl) ?_
      refine mm_get C0 hP iw_X9 0 rfl rfl 1 (by decide) fl_X9_13 rfl dX9_limit_53 ?_
      refine lv_iload_n hx hb dX9_limit_56 rfl (lv_at hl 3 rfl) ?_
      obtain ⟨h_10, hf⟩ := mm_cks hf
      refine mm_iald C0 hP 2 rfl h_10 dX9_limit_57 ?_
      refine lv_topi (fun y_11 ey_11 => ?_)
      have hf := mm_nms hf ey_11
      obtain ⟨h_12, hf⟩ := mm_cks hf
      refine mm_iast C0 hP hD hS 2 rfl h_12 dX9_limit_58 (w2 := (wd_X9 cI cL cS cH a v_keptMany v_done v_rowsOf v_columnsOf v_folded v_wronged v_tapeMany v_textMany v_base v_at v_ends v_fault v_opened v_bentMany v_bentWrong v_moreWorn v_planned v_allWrong v_allWorn v_z v_wishedField v_isFound v_bestWrong v_bestWorn v_bestMany v_soughtBy v_sought v_soughtAt v_foundMany v_foundOrder v_isKept v_imageRows v_imageColumns v_imageFolded v_imageWronged v_bodies v_ran v_ownKind v_ownNumber v_limit (mm_is v_changeWas (x3 - (1 : Int32)) y_11) v_changeIs v_shapeRows v_shapeColumns v_row v_column v_below v_face v_worn v_lastBend v_tape v_text v_names v_bends v_high v_to v_pileSize v_planLine v_planWay v_way1 v_bestWay v_order1 v_placeIn v_bodyKind v_trace v_shelf v_many v_items v_carried)) rfl (fun H locs hP hD hS => ?_)
      generalize el_13 : (mm_is v_changeWas (x3 - (1 : Int32)) y_11) = l_13 at hP hD
      have hf := mm_nms hf el_13.symm
      refine lv_aload_n hx hb dX9_limit_59 rfl (lv_at hl 0 rfl) ?_
      refine mm_get C0 hP iw_X9 0 rfl rfl 2 (by decide) fl_X9_16 rfl dX9_limit_60 ?_
      refine lv_iload_n hx hb dX9_limit_63 rfl (lv_at hl 3 rfl) ?_
      refine lv_iconst (v := 1) hx hb dX9_limit_64 (by decide) ?_
      refine lv_isub hx hb dX9_limit_65 ?_
      refine lv_aload_n hx hb dX9_limit_66 rfl (lv_at hl 0 rfl) ?_
      refine mm_get C0 hP iw_X9 0 rfl rfl 2 (by decide) fl_X9_16 rfl dX9_limit_67 ?_
      refine lv_iload_n hx hb dX9_limit_70 rfl (lv_at hl 3 rfl) ?_
      obtain ⟨h_14, hf⟩ := mm_cks hf
      refine mm_iald C0 hP 3 rfl h_14 dX9_limit_71 ?_
      refine lv_topi (fun y_15 ey_15 => ?_)
      have hf := mm_nms hf ey_15
      obtain ⟨h_16, hf⟩ := mm_cks hf
      refine mm_iast C0 hP hD hS 3 rfl h_16 dX9_limit_72 (w2 := (wd_X9 cI cL cS cH a v_keptMany v_done v_rowsOf v_columnsOf v_folded v_wronged v_tapeMany v_textMany v_base v_at v_ends v_fault v_opened v_bentMany v_bentWrong v_moreWorn v_planned v_allWrong v_allWorn v_z v_wishedField v_isFound v_bestWrong v_bestWorn v_bestMany v_soughtBy v_sought v_soughtAt v_foundMany v_foundOrder v_isKept v_imageRows v_imageColumns v_imageFolded v_imageWronged v_bodies v_ran v_ownKind v_ownNumber v_limit l_13 (mm_is v_changeIs (x3 - (1 : Int32)) y_15) v_shapeRows v_shapeColumns v_row v_column v_below v_face v_worn v_lastBend v_tape v_text v_names v_bends v_high v_to v_pileSize v_planLine v_planWay v_way1 v_bestWay v_order1 v_placeIn v_bodyKind v_trace v_shelf v_many v_items v_carried)) rfl (fun H locs hP hD hS => ?_)
      generalize el_17 : (mm_is v_changeIs (x3 - (1 : Int32)) y_15) = l_17 at hP hD
      have hf := mm_nms hf el_17.symm
      obtain ⟨y_18, ey_18⟩ : ∃ z : Int32, z = x3 + (1 : Int32) := ⟨_, rfl⟩
      have hf := mm_nms hf ey_18
      refine lv_iinc (v := y_18) (lv' := [(3, .int y_18), (0, .ref (a 0)), (1, .int x1), (2, .int x2)]) hx hb dX9_limit_73 hl (k := 3) rfl (by rw [ey_18]; rfl) (by decide) rfl (fun ls hl => ?_)
      refine lv_goto (tgt := 39) hx hb dX9_limit_76 (by decide) ?_
      exact ih _ _ _ _ _ _ _ _ H locs ls hf hP hD hS (lv_sub hl [1, 2, 3, 0] rfl)

def fX9_limit (N : Nat) (x1 : Int32) (v_keptMany : Int32) (v_done : Int32) (v_limit : List Int32) (v_changeWas : List Int32) (v_changeIs : List Int32) : Option (Int32 × Int32 × Int32 × List Int32 × List Int32 × List Int32) :=
    mm_bd1 (fX9_within N ((x1).toInt64) (1 : Int64) (99 : Int64)) (fun (r_1 : Bool) =>
    if r_1 = false then
    (some ((-1 : Int32), v_keptMany, v_done, v_limit, v_changeWas, v_changeIs))
    else (mm_ck (mm_inb (0 : Int32) v_limit.length) (mm_nm ((mm_ig v_limit (0 : Int32))) (fun (y_5 : Int32) =>
    if y_5 = x1 then
    (some (y_5, v_keptMany, v_done, v_limit, v_changeWas, v_changeIs))
    else (if v_done = (40 : Int32) then
    (fX9_limit_39 N N x1 y_5 (1 : Int32) v_keptMany v_done v_limit v_changeWas v_changeIs)
    else (fX9_limit_89 N x1 y_5 v_keptMany v_done v_limit v_changeWas v_changeIs))))))

set_option maxHeartbeats 4000000 in
set_option maxRecDepth 100000 in
theorem ctX9_limit {l : Launch} {D : va_G} {cI cL cS cH : ClassId} {a : Nat → Nat} {x1 : Int32} {v_keptMany : Int32} {v_done : Int32} {v_rowsOf : Int32} {v_columnsOf : Int32} {v_folded : Int32} {v_wronged : Int32} {v_tapeMany : Int32} {v_textMany : Int32} {v_base : Int32} {v_at : Int32} {v_ends : Int32} {v_fault : Int32} {v_opened : Int32} {v_bentMany : Int32} {v_bentWrong : Int32} {v_moreWorn : Int32} {v_planned : Int32} {v_allWrong : Int32} {v_allWorn : Int32} {v_z : Int32} {v_wishedField : Int32} {v_isFound : Bool} {v_bestWrong : Int32} {v_bestWorn : Int32} {v_bestMany : Int32} {v_soughtBy : Int32} {v_sought : Int32} {v_soughtAt : Int32} {v_foundMany : Int32} {v_foundOrder : Int32} {v_isKept : Bool} {v_imageRows : Int32} {v_imageColumns : Int32} {v_imageFolded : Int32} {v_imageWronged : Int32} {v_bodies : Int32} {v_ran : Int32} {v_ownKind : Int32} {v_ownNumber : Int32} {v_limit : List Int32} {v_changeWas : List Int32} {v_changeIs : List Int32} {v_shapeRows : List Int32} {v_shapeColumns : List Int32} {v_row : List Int32} {v_column : List Int32} {v_below : List Int32} {v_face : List Int32} {v_worn : List Int32} {v_lastBend : List Int32} {v_tape : List Int32} {v_text : List Int32} {v_names : List Int32} {v_bends : List Int32} {v_high : List Int32} {v_to : List Int32} {v_pileSize : List Int32} {v_planLine : List Int32} {v_planWay : List Int32} {v_way1 : List Int32} {v_bestWay : List Int32} {v_order1 : List Int32} {v_placeIn : List Int32} {v_bodyKind : List Int32} {v_trace : List Int32} {v_shelf : List Int32} {v_many : List Int32} {v_items : List Int64} {v_carried : List Int64} {r : Int32} {w_keptMany : Int32} {w_done : Int32} {w_limit : List Int32} {w_changeWas : List Int32} {w_changeIs : List Int32} {N d : Nat} (hd : 2 ≤ d) (hf : fX9_limit N x1 v_keptMany v_done v_limit v_changeWas v_changeIs = some (r, w_keptMany, w_done, w_limit, w_changeWas, w_changeIs)) : mm_Ct l yX9_limit cX9_limit 4 (some .int) d D (mm_T cI cL cS cH) [.ref (a 0), .int x1] (wd_X9 cI cL cS cH a v_keptMany v_done v_rowsOf v_columnsOf v_folded v_wronged v_tapeMany v_textMany v_base v_at v_ends v_fault v_opened v_bentMany v_bentWrong v_moreWorn v_planned v_allWrong v_allWorn v_z v_wishedField v_isFound v_bestWrong v_bestWorn v_bestMany v_soughtBy v_sought v_soughtAt v_foundMany v_foundOrder v_isKept v_imageRows v_imageColumns v_imageFolded v_imageWronged v_bodies v_ran v_ownKind v_ownNumber v_limit v_changeWas v_changeIs v_shapeRows v_shapeColumns v_row v_column v_below v_face v_worn v_lastBend v_tape v_text v_names v_bends v_high v_to v_pileSize v_planLine v_planWay v_way1 v_bestWay v_order1 v_placeIn v_bodyKind v_trace v_shelf v_many v_items v_carried) (wd_X9 cI cL cS cH a w_keptMany w_done v_rowsOf v_columnsOf v_folded v_wronged v_tapeMany v_textMany v_base v_at v_ends v_fault v_opened v_bentMany v_bentWrong v_moreWorn v_planned v_allWrong v_allWorn v_z v_wishedField v_isFound v_bestWrong v_bestWorn v_bestMany v_soughtBy v_sought v_soughtAt v_foundMany v_foundOrder v_isKept v_imageRows v_imageColumns v_imageFolded v_imageWronged v_bodies v_ran v_ownKind v_ownNumber w_limit w_changeWas w_changeIs v_shapeRows v_shapeColumns v_row v_column v_below v_face v_worn v_lastBend v_tape v_text v_names v_bends v_high v_to v_pileSize v_planLine v_planWay v_way1 v_bestWay v_order1 v_placeIn v_bodyKind v_trace v_shelf v_many v_items v_carried) (some (.int r)) := by
  refine mm_of (by decide) (Nat.le_of_ble_eq_true rfl) ?_
  intro p e s m args below meth c A H locs ls C0 hP hD hA hS hl
  have C0 : mm_Cx p s m args meth c RX9 cX9_limit 4 (some .int) D (mm_T cI cL cS cH) A := C0
  obtain ⟨hx, hb, hml, hown, hts, hr, hlocks, hK, hSt⟩ := id C0
  have hl : lv_has ls 4 [(0, .ref (a 0)), (1, .int x1)] := hl
  unfold fX9_limit at hf
  refine lv_iload_n hx hb dX9_limit_0 rfl (lv_at hl 1 rfl) ?_
  refine lv_i2l hx hb dX9_limit_1 rfl ?_
  refine lv_lconst (v := 1) hx hb dX9_limit_2 (by decide) ?_
  refine lv_ldc2 hx hb hown (hts _ kc_X9_109) dX9_limit_3 ?_
  obtain ⟨r_1, hc_2, hf⟩ := mm_bd1s hf
  refine mm_callS0 (rest := []) C0 lk_X9_111 (ctX9_within (d := d - 1) (by omega) hc_2) (by omega) rfl hl.1 rfl (mm_cat rfl) dX9_limit_6 hP hD hA hS (fun H locs hP hS => ?_)
  refine W.eq (g2 := F0 m 9 ls [.int (mm_b r_1)]) rfl ?_
  refine lv_if_ne (tgt := 14) hx hb dX9_limit_9 (by decide) (fun c_3 => ?_) (fun c_3 => ?_)
  · have hf := mm_in hf (mm_b1 c_3)
    refine lv_aload_n hx hb dX9_limit_14 rfl (lv_at hl 0 rfl) ?_
    refine mm_get C0 hP iw_X9 0 rfl rfl 0 (by decide) fl_X9_7 rfl dX9_limit_15 ?_
    refine lv_iconst (v := 0) hx hb dX9_limit_18 (by decide) ?_
    obtain ⟨h_4, hf⟩ := mm_cks hf
    refine mm_iald C0 hP 1 rfl h_4 dX9_limit_19 ?_
    refine lv_topi (fun y_5 ey_5 => ?_)
    have hf := mm_nms hf ey_5
    refine lv_istore_n (lv' := [(2, .int y_5), (0, .ref (a 0)), (1, .int x1)]) hx hb dX9_limit_20 rfl hl (by decide) rfl (fun ls hl => ?_)
    refine lv_iload_n hx hb dX9_limit_21 rfl (lv_at hl 0 rfl) ?_
    refine lv_iload_n hx hb dX9_limit_22 rfl (lv_at hl 2 rfl) ?_
    refine lv_icmp_ne (tgt := 28) hx hb dX9_limit_23 (by decide) (fun c_6 => ?_) (fun c_6 => ?_)
    · have hf := mm_in hf c_6
      refine lv_aload_n hx hb dX9_limit_28 rfl (lv_at hl 1 rfl) ?_
      refine mm_get C0 hP iw_X9 0 rfl rfl 4 (by decide) fl_X9_115 rfl dX9_limit_29 ?_
      refine lv_bipush (v := 40) hx hb dX9_limit_32 (by decide) ?_
      refine lv_icmp_ne (tgt := 89) hx hb dX9_limit_34 (by decide) (fun c_7 => ?_) (fun c_7 => ?_)
      · have hf := mm_in hf c_7
        exact tX9_limit_89 hd C0 hA N  _ _ _ _ _ _ _ H locs ls hf hP hD hS (lv_sub hl [1, 2, 0] rfl)
      · have hf := mm_ip hf c_7
        refine lv_iconst (v := 1) hx hb dX9_limit_37 (by decide) ?_
        refine lv_istore_n (lv' := [(3, .int (1 : Int32)), (2, .int y_5), (0, .ref (a 0)), (1, .int x1)]) hx hb dX9_limit_38 rfl hl (by decide) rfl (fun ls hl => ?_)
        exact tX9_limit_39 hd C0 hA N  N _ _ _ _ _ _ _ _ H locs ls hf hP hD hS (lv_sub hl [2, 3, 1, 0] rfl)
    · have hf := mm_ip hf c_6
      refine lv_iload_n hx hb dX9_limit_26 rfl (lv_at hl 0 rfl) ?_
      apply mm_sub6 hf
      exact mm_iret C0 hP hD hS dX9_limit_27
  · have hf := mm_ip hf (mm_b0 c_3)
    refine lv_iconst (v := -1) hx hb dX9_limit_12 (by decide) ?_
    apply mm_sub6 hf
    exact mm_iret C0 hP hD hS dX9_limit_13

theorem dX9_undo_0 : decode cX9_undo 0 = .ok (.aload_n 0, 1) := by decide +kernel
theorem dX9_undo_1 : decode cX9_undo 1 = .ok (.getfield 115, 3) := by decide +kernel
theorem dX9_undo_4 : decode cX9_undo 4 = .ok (.ifCond .ne 6, 3) := by decide +kernel
theorem dX9_undo_7 : decode cX9_undo 7 = .ok (.bipush (-5), 2) := by decide +kernel
theorem dX9_undo_9 : decode cX9_undo 9 = .ok (.ireturn, 1) := by decide +kernel
theorem dX9_undo_10 : decode cX9_undo 10 = .ok (.aload_n 0, 1) := by decide +kernel
theorem dX9_undo_11 : decode cX9_undo 11 = .ok (.dup, 1) := by decide +kernel
theorem dX9_undo_12 : decode cX9_undo 12 = .ok (.getfield 115, 3) := by decide +kernel
theorem dX9_undo_15 : decode cX9_undo 15 = .ok (.iconst 1, 1) := by decide +kernel
theorem dX9_undo_16 : decode cX9_undo 16 = .ok (.isub, 1) := by decide +kernel
theorem dX9_undo_17 : decode cX9_undo 17 = .ok (.putfield 115, 3) := by decide +kernel
theorem dX9_undo_20 : decode cX9_undo 20 = .ok (.aload_n 0, 1) := by decide +kernel
theorem dX9_undo_21 : decode cX9_undo 21 = .ok (.getfield 7, 3) := by decide +kernel
theorem dX9_undo_24 : decode cX9_undo 24 = .ok (.iconst 0, 1) := by decide +kernel
theorem dX9_undo_25 : decode cX9_undo 25 = .ok (.aload_n 0, 1) := by decide +kernel
theorem dX9_undo_26 : decode cX9_undo 26 = .ok (.getfield 13, 3) := by decide +kernel
theorem dX9_undo_29 : decode cX9_undo 29 = .ok (.aload_n 0, 1) := by decide +kernel
theorem dX9_undo_30 : decode cX9_undo 30 = .ok (.getfield 115, 3) := by decide +kernel
theorem dX9_undo_33 : decode cX9_undo 33 = .ok (.iaload, 1) := by decide +kernel
theorem dX9_undo_34 : decode cX9_undo 34 = .ok (.iastore, 1) := by decide +kernel
theorem dX9_undo_35 : decode cX9_undo 35 = .ok (.aload_n 0, 1) := by decide +kernel
theorem dX9_undo_36 : decode cX9_undo 36 = .ok (.getfield 115, 3) := by decide +kernel
theorem dX9_undo_39 : decode cX9_undo 39 = .ok (.ireturn, 1) := by decide +kernel
def fX9_undo (N : Nat) (v_done : Int32) (v_limit : List Int32) (v_changeWas : List Int32) : Option (Int32 × Int32 × List Int32) :=
    if v_done = 0 then
    (some ((-5 : Int32), v_done, v_limit))
    else (mm_nm ((v_done - (1 : Int32))) (fun (y_2 : Int32) =>
    mm_ck (mm_inb y_2 v_changeWas.length) (mm_nm ((mm_ig v_changeWas y_2)) (fun (y_4 : Int32) =>
    mm_ck (mm_inb (0 : Int32) v_limit.length) (mm_nm (mm_is v_limit (0 : Int32) y_4) (fun (l_6 : List Int32) =>
    some (y_2, y_2, l_6)))))))

set_option maxHeartbeats 4000000 in
set_option maxRecDepth 100000 in
theorem ctX9_undo {l : Launch} {D : va_G} {cI cL cS cH : ClassId} {a : Nat → Nat}  {v_keptMany : Int32} {v_done : Int32} {v_rowsOf : Int32} {v_columnsOf : Int32} {v_folded : Int32} {v_wronged : Int32} {v_tapeMany : Int32} {v_textMany : Int32} {v_base : Int32} {v_at : Int32} {v_ends : Int32} {v_fault : Int32} {v_opened : Int32} {v_bentMany : Int32} {v_bentWrong : Int32} {v_moreWorn : Int32} {v_planned : Int32} {v_allWrong : Int32} {v_allWorn : Int32} {v_z : Int32} {v_wishedField : Int32} {v_isFound : Bool} {v_bestWrong : Int32} {v_bestWorn : Int32} {v_bestMany : Int32} {v_soughtBy : Int32} {v_sought : Int32} {v_soughtAt : Int32} {v_foundMany : Int32} {v_foundOrder : Int32} {v_isKept : Bool} {v_imageRows : Int32} {v_imageColumns : Int32} {v_imageFolded : Int32} {v_imageWronged : Int32} {v_bodies : Int32} {v_ran : Int32} {v_ownKind : Int32} {v_ownNumber : Int32} {v_limit : List Int32} {v_changeWas : List Int32} {v_changeIs : List Int32} {v_shapeRows : List Int32} {v_shapeColumns : List Int32} {v_row : List Int32} {v_column : List Int32} {v_below : List Int32} {v_face : List Int32} {v_worn : List Int32} {v_lastBend : List Int32} {v_tape : List Int32} {v_text : List Int32} {v_names : List Int32} {v_bends : List Int32} {v_high : List Int32} {v_to : List Int32} {v_pileSize : List Int32} {v_planLine : List Int32} {v_planWay : List Int32} {v_way1 : List Int32} {v_bestWay : List Int32} {v_order1 : List Int32} {v_placeIn : List Int32} {v_bodyKind : List Int32} {v_trace : List Int32} {v_shelf : List Int32} {v_many : List Int32} {v_items : List Int64} {v_carried : List Int64} {r : Int32} {w_done : Int32} {w_limit : List Int32} {N d : Nat} (hd : 1 ≤ d) (hf : fX9_undo N v_done v_limit v_changeWas = some (r, w_done, w_limit)) : mm_Ct l yX9_undo cX9_undo 1 (some .int) d D (mm_T cI cL cS cH) [.ref (a 0)] (wd_X9 cI cL cS cH a v_keptMany v_done v_rowsOf v_columnsOf v_folded v_wronged v_tapeMany v_textMany v_base v_at v_ends v_fault v_opened v_bentMany v_bentWrong v_moreWorn v_planned v_allWrong v_allWorn v_z v_wishedField v_isFound v_bestWrong v_bestWorn v_bestMany v_soughtBy v_sought v_soughtAt v_foundMany v_foundOrder v_isKept v_imageRows v_imageColumns v_imageFolded v_imageWronged v_bodies v_ran v_ownKind v_ownNumber v_limit v_changeWas v_changeIs v_shapeRows v_shapeColumns v_row v_column v_below v_face v_worn v_lastBend v_tape v_text v_names v_bends v_high v_to v_pileSize v_planLine v_planWay v_way1 v_bestWay v_order1 v_placeIn v_bodyKind v_trace v_shelf v_many v_items v_carried) (wd_X9 cI cL cS cH a v_keptMany w_done v_rowsOf v_columnsOf v_folded v_wronged v_tapeMany v_textMany v_base v_at v_ends v_fault v_opened v_bentMany v_bentWrong v_moreWorn v_planned v_allWrong v_allWorn v_z v_wishedField v_isFound v_bestWrong v_bestWorn v_bestMany v_soughtBy v_sought v_soughtAt v_foundMany v_foundOrder v_isKept v_imageRows v_imageColumns v_imageFolded v_imageWronged v_bodies v_ran v_ownKind v_ownNumber w_limit v_changeWas v_changeIs v_shapeRows v_shapeColumns v_row v_column v_below v_face v_worn v_lastBend v_tape v_text v_names v_bends v_high v_to v_pileSize v_planLine v_planWay v_way1 v_bestWay v_order1 v_placeIn v_bodyKind v_trace v_shelf v_many v_items v_carried) (some (.int r)) := by
  refine mm_of (by decide) (Nat.le_of_ble_eq_true rfl) ?_
  intro p e s m args below meth c A H locs ls C0 hP hD hA hS hl
  have C0 : mm_Cx p s m args meth c RX9 cX9_undo 1 (some .int) D (mm_T cI cL cS cH) A := C0
  obtain ⟨hx, hb, hml, hown, hts, hr, hlocks, hK, hSt⟩ := id C0
  have hl : lv_has ls 1 [(0, .ref (a 0))] := hl
  unfold fX9_undo at hf
  refine lv_aload_n hx hb dX9_undo_0 rfl (lv_at hl 0 rfl) ?_
  refine mm_get C0 hP iw_X9 0 rfl rfl 4 (by decide) fl_X9_115 rfl dX9_undo_1 ?_
  refine lv_if_ne (tgt := 10) hx hb dX9_undo_4 (by decide) (fun c_1 => ?_) (fun c_1 => ?_)
  · have hf := mm_in hf c_1
    refine lv_aload_n hx hb dX9_undo_10 rfl (lv_at hl 0 rfl) ?_
    refine lv_dup hx hb dX9_undo_11 rfl ?_
    refine mm_get C0 hP iw_X9 0 rfl rfl 4 (by decide) fl_X9_115 rfl dX9_undo_12 ?_
    refine lv_iconst (v := 1) hx hb dX9_undo_15 (by decide) ?_
    refine lv_isub hx hb dX9_undo_16 ?_
    refine lv_topi (fun y_2 ey_2 => ?_)
    have hf := mm_nms hf ey_2
    refine mm_put C0 hP hD hS iw_X9 tyX9 tyX9_ok nmX9 0 rfl rfl 4 (by decide) fl_X9_115 rfl rfl rfl (Nat.le_of_ble_eq_true rfl) dX9_undo_17 (w2 := (wd_X9 cI cL cS cH a v_keptMany y_2 v_rowsOf v_columnsOf v_folded v_wronged v_tapeMany v_textMany v_base v_at v_ends v_fault v_opened v_bentMany v_bentWrong v_moreWorn v_planned v_allWrong v_allWorn v_z v_wishedField v_isFound v_bestWrong v_bestWorn v_bestMany v_soughtBy v_sought v_soughtAt v_foundMany v_foundOrder v_isKept v_imageRows v_imageColumns v_imageFolded v_imageWronged v_bodies v_ran v_ownKind v_ownNumber v_limit v_changeWas v_changeIs v_shapeRows v_shapeColumns v_row v_column v_below v_face v_worn v_lastBend v_tape v_text v_names v_bends v_high v_to v_pileSize v_planLine v_planWay v_way1 v_bestWay v_order1 v_placeIn v_bodyKind v_trace v_shelf v_many v_items v_carried)) rfl (fun H locs hP hD hS => ?_)
    refine lv_aload_n hx hb dX9_undo_20 rfl (lv_at hl 0 rfl) ?_
    refine mm_get C0 hP iw_X9 0 rfl rfl 0 (by decide) fl_X9_7 rfl dX9_undo_21 ?_
    refine lv_iconst (v := 0) hx hb dX9_undo_24 (by decide) ?_
    refine lv_aload_n hx hb dX9_undo_25 rfl (lv_at hl 0 rfl) ?_
    refine mm_get C0 hP iw_X9 0 rfl rfl 1 (by decide) fl_X9_13 rfl dX9_undo_26 ?_
    refine lv_aload_n hx hb dX9_undo_29 rfl (lv_at hl 0 rfl) ?_
    refine mm_get C0 hP iw_X9 0 rfl rfl 4 (by decide) fl_X9_115 rfl dX9_undo_30 ?_
    obtain ⟨h_3, hf⟩ := mm_cks hf
    refine mm_iald C0 hP 2 rfl h_3 dX9_undo_33 ?_
    refine lv_topi (fun y_4 ey_4 => ?_)
    have hf := mm_nms hf ey_4
    obtain ⟨h_5, hf⟩ := mm_cks hf
    refine mm_iast C0 hP hD hS 1 rfl h_5 dX9_undo_34 (w2 := (wd_X9 cI cL cS cH a v_keptMany y_2 v_rowsOf v_columnsOf v_folded v_wronged v_tapeMany v_textMany v_base v_at v_ends v_fault v_opened v_bentMany v_bentWrong v_moreWorn v_planned v_allWrong v_allWorn v_z v_wishedField v_isFound v_bestWrong v_bestWorn v_bestMany v_soughtBy v_sought v_soughtAt v_foundMany v_foundOrder v_isKept v_imageRows v_imageColumns v_imageFolded v_imageWronged v_bodies v_ran v_ownKind v_ownNumber (mm_is v_limit (0 : Int32) y_4) v_changeWas v_changeIs v_shapeRows v_shapeColumns v_row v_column v_below v_face v_worn v_lastBend v_tape v_text v_names v_bends v_high v_to v_pileSize v_planLine v_planWay v_way1 v_bestWay v_order1 v_placeIn v_bodyKind v_trace v_shelf v_many v_items v_carried)) rfl (fun H locs hP hD hS => ?_)
    generalize el_6 : (mm_is v_limit (0 : Int32) y_4) = l_6 at hP hD
    have hf := mm_nms hf el_6.symm
    refine lv_aload_n hx hb dX9_undo_35 rfl (lv_at hl 0 rfl) ?_
    refine mm_get C0 hP iw_X9 0 rfl rfl 4 (by decide) fl_X9_115 rfl dX9_undo_36 ?_
    apply mm_sub3 hf
    exact mm_iret C0 hP hD hS dX9_undo_39
  · have hf := mm_ip hf c_1
    refine lv_bipush (v := -5) hx hb dX9_undo_7 (by decide) ?_
    apply mm_sub3 hf
    exact mm_iret C0 hP hD hS dX9_undo_9

theorem dX9_redo_0 : decode cX9_redo 0 = .ok (.aload_n 0, 1) := by decide +kernel
theorem dX9_redo_1 : decode cX9_redo 1 = .ok (.getfield 115, 3) := by decide +kernel
theorem dX9_redo_4 : decode cX9_redo 4 = .ok (.aload_n 0, 1) := by decide +kernel
theorem dX9_redo_5 : decode cX9_redo 5 = .ok (.getfield 118, 3) := by decide +kernel
theorem dX9_redo_8 : decode cX9_redo 8 = .ok (.if_icmp .ne 6, 3) := by decide +kernel
theorem dX9_redo_11 : decode cX9_redo 11 = .ok (.bipush (-5), 2) := by decide +kernel
theorem dX9_redo_13 : decode cX9_redo 13 = .ok (.ireturn, 1) := by decide +kernel
theorem dX9_redo_14 : decode cX9_redo 14 = .ok (.aload_n 0, 1) := by decide +kernel
theorem dX9_redo_15 : decode cX9_redo 15 = .ok (.getfield 7, 3) := by decide +kernel
theorem dX9_redo_18 : decode cX9_redo 18 = .ok (.iconst 0, 1) := by decide +kernel
theorem dX9_redo_19 : decode cX9_redo 19 = .ok (.aload_n 0, 1) := by decide +kernel
theorem dX9_redo_20 : decode cX9_redo 20 = .ok (.getfield 16, 3) := by decide +kernel
theorem dX9_redo_23 : decode cX9_redo 23 = .ok (.aload_n 0, 1) := by decide +kernel
theorem dX9_redo_24 : decode cX9_redo 24 = .ok (.getfield 115, 3) := by decide +kernel
theorem dX9_redo_27 : decode cX9_redo 27 = .ok (.iaload, 1) := by decide +kernel
theorem dX9_redo_28 : decode cX9_redo 28 = .ok (.iastore, 1) := by decide +kernel
theorem dX9_redo_29 : decode cX9_redo 29 = .ok (.aload_n 0, 1) := by decide +kernel
theorem dX9_redo_30 : decode cX9_redo 30 = .ok (.dup, 1) := by decide +kernel
theorem dX9_redo_31 : decode cX9_redo 31 = .ok (.getfield 115, 3) := by decide +kernel
theorem dX9_redo_34 : decode cX9_redo 34 = .ok (.iconst 1, 1) := by decide +kernel
theorem dX9_redo_35 : decode cX9_redo 35 = .ok (.iadd, 1) := by decide +kernel
theorem dX9_redo_36 : decode cX9_redo 36 = .ok (.putfield 115, 3) := by decide +kernel
theorem dX9_redo_39 : decode cX9_redo 39 = .ok (.aload_n 0, 1) := by decide +kernel
theorem dX9_redo_40 : decode cX9_redo 40 = .ok (.getfield 118, 3) := by decide +kernel
theorem dX9_redo_43 : decode cX9_redo 43 = .ok (.aload_n 0, 1) := by decide +kernel
theorem dX9_redo_44 : decode cX9_redo 44 = .ok (.getfield 115, 3) := by decide +kernel
theorem dX9_redo_47 : decode cX9_redo 47 = .ok (.isub, 1) := by decide +kernel
theorem dX9_redo_48 : decode cX9_redo 48 = .ok (.ireturn, 1) := by decide +kernel
def fX9_redo (N : Nat) (v_keptMany : Int32) (v_done : Int32) (v_limit : List Int32) (v_changeIs : List Int32) : Option (Int32 × Int32 × List Int32) :=
    if v_done = v_keptMany then
    (some ((-5 : Int32), v_done, v_limit))
    else (mm_ck (mm_inb v_done v_changeIs.length) (mm_nm ((mm_ig v_changeIs v_done)) (fun (y_3 : Int32) =>
    mm_ck (mm_inb (0 : Int32) v_limit.length) (mm_nm (mm_is v_limit (0 : Int32) y_3) (fun (l_5 : List Int32) =>
    mm_nm ((v_done + (1 : Int32))) (fun (y_6 : Int32) =>
    some ((v_keptMany - y_6), y_6, l_5)))))))

set_option maxHeartbeats 4000000 in
set_option maxRecDepth 100000 in
theorem ctX9_redo {l : Launch} {D : va_G} {cI cL cS cH : ClassId} {a : Nat → Nat}  {v_keptMany : Int32} {v_done : Int32} {v_rowsOf : Int32} {v_columnsOf : Int32} {v_folded : Int32} {v_wronged : Int32} {v_tapeMany : Int32} {v_textMany : Int32} {v_base : Int32} {v_at : Int32} {v_ends : Int32} {v_fault : Int32} {v_opened : Int32} {v_bentMany : Int32} {v_bentWrong : Int32} {v_moreWorn : Int32} {v_planned : Int32} {v_allWrong : Int32} {v_allWorn : Int32} {v_z : Int32} {v_wishedField : Int32} {v_isFound : Bool} {v_bestWrong : Int32} {v_bestWorn : Int32} {v_bestMany : Int32} {v_soughtBy : Int32} {v_sought : Int32} {v_soughtAt : Int32} {v_foundMany : Int32} {v_foundOrder : Int32} {v_isKept : Bool} {v_imageRows : Int32} {v_imageColumns : Int32} {v_imageFolded : Int32} {v_imageWronged : Int32} {v_bodies : Int32} {v_ran : Int32} {v_ownKind : Int32} {v_ownNumber : Int32} {v_limit : List Int32} {v_changeWas : List Int32} {v_changeIs : List Int32} {v_shapeRows : List Int32} {v_shapeColumns : List Int32} {v_row : List Int32} {v_column : List Int32} {v_below : List Int32} {v_face : List Int32} {v_worn : List Int32} {v_lastBend : List Int32} {v_tape : List Int32} {v_text : List Int32} {v_names : List Int32} {v_bends : List Int32} {v_high : List Int32} {v_to : List Int32} {v_pileSize : List Int32} {v_planLine : List Int32} {v_planWay : List Int32} {v_way1 : List Int32} {v_bestWay : List Int32} {v_order1 : List Int32} {v_placeIn : List Int32} {v_bodyKind : List Int32} {v_trace : List Int32} {v_shelf : List Int32} {v_many : List Int32} {v_items : List Int64} {v_carried : List Int64} {r : Int32} {w_done : Int32} {w_limit : List Int32} {N d : Nat} (hd : 1 ≤ d) (hf : fX9_redo N v_keptMany v_done v_limit v_changeIs = some (r, w_done, w_limit)) : mm_Ct l yX9_redo cX9_redo 1 (some .int) d D (mm_T cI cL cS cH) [.ref (a 0)] (wd_X9 cI cL cS cH a v_keptMany v_done v_rowsOf v_columnsOf v_folded v_wronged v_tapeMany v_textMany v_base v_at v_ends v_fault v_opened v_bentMany v_bentWrong v_moreWorn v_planned v_allWrong v_allWorn v_z v_wishedField v_isFound v_bestWrong v_bestWorn v_bestMany v_soughtBy v_sought v_soughtAt v_foundMany v_foundOrder v_isKept v_imageRows v_imageColumns v_imageFolded v_imageWronged v_bodies v_ran v_ownKind v_ownNumber v_limit v_changeWas v_changeIs v_shapeRows v_shapeColumns v_row v_column v_below v_face v_worn v_lastBend v_tape v_text v_names v_bends v_high v_to v_pileSize v_planLine v_planWay v_way1 v_bestWay v_order1 v_placeIn v_bodyKind v_trace v_shelf v_many v_items v_carried) (wd_X9 cI cL cS cH a v_keptMany w_done v_rowsOf v_columnsOf v_folded v_wronged v_tapeMany v_textMany v_base v_at v_ends v_fault v_opened v_bentMany v_bentWrong v_moreWorn v_planned v_allWrong v_allWorn v_z v_wishedField v_isFound v_bestWrong v_bestWorn v_bestMany v_soughtBy v_sought v_soughtAt v_foundMany v_foundOrder v_isKept v_imageRows v_imageColumns v_imageFolded v_imageWronged v_bodies v_ran v_ownKind v_ownNumber w_limit v_changeWas v_changeIs v_shapeRows v_shapeColumns v_row v_column v_below v_face v_worn v_lastBend v_tape v_text v_names v_bends v_high v_to v_pileSize v_planLine v_planWay v_way1 v_bestWay v_order1 v_placeIn v_bodyKind v_trace v_shelf v_many v_items v_carried) (some (.int r)) := by
  refine mm_of (by decide) (Nat.le_of_ble_eq_true rfl) ?_
  intro p e s m args below meth c A H locs ls C0 hP hD hA hS hl
  have C0 : mm_Cx p s m args meth c RX9 cX9_redo 1 (some .int) D (mm_T cI cL cS cH) A := C0
  obtain ⟨hx, hb, hml, hown, hts, hr, hlocks, hK, hSt⟩ := id C0
  have hl : lv_has ls 1 [(0, .ref (a 0))] := hl
  unfold fX9_redo at hf
  refine lv_aload_n hx hb dX9_redo_0 rfl (lv_at hl 0 rfl) ?_
  refine mm_get C0 hP iw_X9 0 rfl rfl 4 (by decide) fl_X9_115 rfl dX9_redo_1 ?_
  refine lv_aload_n hx hb dX9_redo_4 rfl (lv_at hl 0 rfl) ?_
  refine mm_get C0 hP iw_X9 0 rfl rfl 3 (by decide) fl_X9_118 rfl dX9_redo_5 ?_
  refine lv_icmp_ne (tgt := 14) hx hb dX9_redo_8 (by decide) (fun c_1 => ?_) (fun c_1 => ?_)
  · have hf := mm_in hf c_1
    refine lv_aload_n hx hb dX9_redo_14 rfl (lv_at hl 0 rfl) ?_
    refine mm_get C0 hP iw_X9 0 rfl rfl 0 (by decide) fl_X9_7 rfl dX9_redo_15 ?_
    refine lv_iconst (v := 0) hx hb dX9_redo_18 (by decide) ?_
    refine lv_aload_n hx hb dX9_redo_19 rfl (lv_at hl 0 rfl) ?_
    refine mm_get C0 hP iw_X9 0 rfl rfl 2 (by decide) fl_X9_16 rfl dX9_redo_20 ?_
    refine lv_aload_n hx hb dX9_redo_23 rfl (lv_at hl 0 rfl) ?_
    refine mm_get C0 hP iw_X9 0 rfl rfl 4 (by decide) fl_X9_115 rfl dX9_redo_24 ?_
    obtain ⟨h_2, hf⟩ := mm_cks hf
    refine mm_iald C0 hP 3 rfl h_2 dX9_redo_27 ?_
    refine lv_topi (fun y_3 ey_3 => ?_)
    have hf := mm_nms hf ey_3
    obtain ⟨h_4, hf⟩ := mm_cks hf
    refine mm_iast C0 hP hD hS 1 rfl h_4 dX9_redo_28 (w2 := (wd_X9 cI cL cS cH a v_keptMany v_done v_rowsOf v_columnsOf v_folded v_wronged v_tapeMany v_textMany v_base v_at v_ends v_fault v_opened v_bentMany v_bentWrong v_moreWorn v_planned v_allWrong v_allWorn v_z v_wishedField v_isFound v_bestWrong v_bestWorn v_bestMany v_soughtBy v_sought v_soughtAt v_foundMany v_foundOrder v_isKept v_imageRows v_imageColumns v_imageFolded v_imageWronged v_bodies v_ran v_ownKind v_ownNumber (mm_is v_limit (0 : Int32) y_3) v_changeWas v_changeIs v_shapeRows v_shapeColumns v_row v_column v_below v_face v_worn v_lastBend v_tape v_text v_names v_bends v_high v_to v_pileSize v_planLine v_planWay v_way1 v_bestWay v_order1 v_placeIn v_bodyKind v_trace v_shelf v_many v_items v_carried)) rfl (fun H locs hP hD hS => ?_)
    generalize el_5 : (mm_is v_limit (0 : Int32) y_3) = l_5 at hP hD
    have hf := mm_nms hf el_5.symm
    refine lv_aload_n hx hb dX9_redo_29 rfl (lv_at hl 0 rfl) ?_
    refine lv_dup hx hb dX9_redo_30 rfl ?_
    refine mm_get C0 hP iw_X9 0 rfl rfl 4 (by decide) fl_X9_115 rfl dX9_redo_31 ?_
    refine lv_iconst (v := 1) hx hb dX9_redo_34 (by decide) ?_
    refine lv_iadd hx hb dX9_redo_35 ?_
    refine lv_topi (fun y_6 ey_6 => ?_)
    have hf := mm_nms hf ey_6
    refine mm_put C0 hP hD hS iw_X9 tyX9 tyX9_ok nmX9 0 rfl rfl 4 (by decide) fl_X9_115 rfl rfl rfl (Nat.le_of_ble_eq_true rfl) dX9_redo_36 (w2 := (wd_X9 cI cL cS cH a v_keptMany y_6 v_rowsOf v_columnsOf v_folded v_wronged v_tapeMany v_textMany v_base v_at v_ends v_fault v_opened v_bentMany v_bentWrong v_moreWorn v_planned v_allWrong v_allWorn v_z v_wishedField v_isFound v_bestWrong v_bestWorn v_bestMany v_soughtBy v_sought v_soughtAt v_foundMany v_foundOrder v_isKept v_imageRows v_imageColumns v_imageFolded v_imageWronged v_bodies v_ran v_ownKind v_ownNumber l_5 v_changeWas v_changeIs v_shapeRows v_shapeColumns v_row v_column v_below v_face v_worn v_lastBend v_tape v_text v_names v_bends v_high v_to v_pileSize v_planLine v_planWay v_way1 v_bestWay v_order1 v_placeIn v_bodyKind v_trace v_shelf v_many v_items v_carried)) rfl (fun H locs hP hD hS => ?_)
    refine lv_aload_n hx hb dX9_redo_39 rfl (lv_at hl 0 rfl) ?_
    refine mm_get C0 hP iw_X9 0 rfl rfl 3 (by decide) fl_X9_118 rfl dX9_redo_40 ?_
    refine lv_aload_n hx hb dX9_redo_43 rfl (lv_at hl 0 rfl) ?_
    refine mm_get C0 hP iw_X9 0 rfl rfl 4 (by decide) fl_X9_115 rfl dX9_redo_44 ?_
    refine lv_isub hx hb dX9_redo_47 ?_
    apply mm_sub3 hf
    exact mm_iret C0 hP hD hS dX9_redo_48
  · have hf := mm_ip hf c_1
    refine lv_bipush (v := -5) hx hb dX9_redo_11 (by decide) ?_
    apply mm_sub3 hf
    exact mm_iret C0 hP hD hS dX9_redo_13

theorem dX9_fields_0 : decode cX9_fields 0 = .ok (.aload_n 0, 1) := by decide +kernel
theorem dX9_fields_1 : decode cX9_fields 1 = .ok (.getfield 121, 3) := by decide +kernel
theorem dX9_fields_4 : decode cX9_fields 4 = .ok (.aload_n 0, 1) := by decide +kernel
theorem dX9_fields_5 : decode cX9_fields 5 = .ok (.getfield 124, 3) := by decide +kernel
theorem dX9_fields_8 : decode cX9_fields 8 = .ok (.imul, 1) := by decide +kernel
theorem dX9_fields_9 : decode cX9_fields 9 = .ok (.ireturn, 1) := by decide +kernel
def fX9_fields (N : Nat) (v_rowsOf : Int32) (v_columnsOf : Int32) : Option (Int32) :=
    some ((v_rowsOf * v_columnsOf))

set_option maxHeartbeats 4000000 in
set_option maxRecDepth 100000 in
theorem ctX9_fields {l : Launch} {D : va_G} {cI cL cS cH : ClassId} {a : Nat → Nat}  {v_keptMany : Int32} {v_done : Int32} {v_rowsOf : Int32} {v_columnsOf : Int32} {v_folded : Int32} {v_wronged : Int32} {v_tapeMany : Int32} {v_textMany : Int32} {v_base : Int32} {v_at : Int32} {v_ends : Int32} {v_fault : Int32} {v_opened : Int32} {v_bentMany : Int32} {v_bentWrong : Int32} {v_moreWorn : Int32} {v_planned : Int32} {v_allWrong : Int32} {v_allWorn : Int32} {v_z : Int32} {v_wishedField : Int32} {v_isFound : Bool} {v_bestWrong : Int32} {v_bestWorn : Int32} {v_bestMany : Int32} {v_soughtBy : Int32} {v_sought : Int32} {v_soughtAt : Int32} {v_foundMany : Int32} {v_foundOrder : Int32} {v_isKept : Bool} {v_imageRows : Int32} {v_imageColumns : Int32} {v_imageFolded : Int32} {v_imageWronged : Int32} {v_bodies : Int32} {v_ran : Int32} {v_ownKind : Int32} {v_ownNumber : Int32} {v_limit : List Int32} {v_changeWas : List Int32} {v_changeIs : List Int32} {v_shapeRows : List Int32} {v_shapeColumns : List Int32} {v_row : List Int32} {v_column : List Int32} {v_below : List Int32} {v_face : List Int32} {v_worn : List Int32} {v_lastBend : List Int32} {v_tape : List Int32} {v_text : List Int32} {v_names : List Int32} {v_bends : List Int32} {v_high : List Int32} {v_to : List Int32} {v_pileSize : List Int32} {v_planLine : List Int32} {v_planWay : List Int32} {v_way1 : List Int32} {v_bestWay : List Int32} {v_order1 : List Int32} {v_placeIn : List Int32} {v_bodyKind : List Int32} {v_trace : List Int32} {v_shelf : List Int32} {v_many : List Int32} {v_items : List Int64} {v_carried : List Int64} {r : Int32} {N d : Nat} (hd : 1 ≤ d) (hf : fX9_fields N v_rowsOf v_columnsOf = some r) : mm_Ct l yX9_fields cX9_fields 1 (some .int) d D (mm_T cI cL cS cH) [.ref (a 0)] (wd_X9 cI cL cS cH a v_keptMany v_done v_rowsOf v_columnsOf v_folded v_wronged v_tapeMany v_textMany v_base v_at v_ends v_fault v_opened v_bentMany v_bentWrong v_moreWorn v_planned v_allWrong v_allWorn v_z v_wishedField v_isFound v_bestWrong v_bestWorn v_bestMany v_soughtBy v_sought v_soughtAt v_foundMany v_foundOrder v_isKept v_imageRows v_imageColumns v_imageFolded v_imageWronged v_bodies v_ran v_ownKind v_ownNumber v_limit v_changeWas v_changeIs v_shapeRows v_shapeColumns v_row v_column v_below v_face v_worn v_lastBend v_tape v_text v_names v_bends v_high v_to v_pileSize v_planLine v_planWay v_way1 v_bestWay v_order1 v_placeIn v_bodyKind v_trace v_shelf v_many v_items v_carried) (wd_X9 cI cL cS cH a v_keptMany v_done v_rowsOf v_columnsOf v_folded v_wronged v_tapeMany v_textMany v_base v_at v_ends v_fault v_opened v_bentMany v_bentWrong v_moreWorn v_planned v_allWrong v_allWorn v_z v_wishedField v_isFound v_bestWrong v_bestWorn v_bestMany v_soughtBy v_sought v_soughtAt v_foundMany v_foundOrder v_isKept v_imageRows v_imageColumns v_imageFolded v_imageWronged v_bodies v_ran v_ownKind v_ownNumber v_limit v_changeWas v_changeIs v_shapeRows v_shapeColumns v_row v_column v_below v_face v_worn v_lastBend v_tape v_text v_names v_bends v_high v_to v_pileSize v_planLine v_planWay v_way1 v_bestWay v_order1 v_placeIn v_bodyKind v_trace v_shelf v_many v_items v_carried) (some (.int r)) := by
  refine mm_of (by decide) (Nat.le_of_ble_eq_true rfl) ?_
  intro p e s m args below meth c A H locs ls C0 hP hD hA hS hl
  have C0 : mm_Cx p s m args meth c RX9 cX9_fields 1 (some .int) D (mm_T cI cL cS cH) A := C0
  obtain ⟨hx, hb, hml, hown, hts, hr, hlocks, hK, hSt⟩ := id C0
  have hl : lv_has ls 1 [(0, .ref (a 0))] := hl
  unfold fX9_fields at hf
  refine lv_aload_n hx hb dX9_fields_0 rfl (lv_at hl 0 rfl) ?_
  refine mm_get C0 hP iw_X9 0 rfl rfl 5 (by decide) fl_X9_121 rfl dX9_fields_1 ?_
  refine lv_aload_n hx hb dX9_fields_4 rfl (lv_at hl 0 rfl) ?_
  refine mm_get C0 hP iw_X9 0 rfl rfl 6 (by decide) fl_X9_124 rfl dX9_fields_5 ?_
  refine lv_imul hx hb dX9_fields_8 ?_
  obtain rfl := mm_inj1 hf
  exact mm_iret C0 hP hD hS dX9_fields_9

theorem dX9_liesFlat_0 : decode cX9_liesFlat 0 = .ok (.aload_n 0, 1) := by decide +kernel
theorem dX9_liesFlat_1 : decode cX9_liesFlat 1 = .ok (.getfield 19, 3) := by decide +kernel
theorem dX9_liesFlat_4 : decode cX9_liesFlat 4 = .ok (.iload_n 1, 1) := by decide +kernel
theorem dX9_liesFlat_5 : decode cX9_liesFlat 5 = .ok (.aload_n 0, 1) := by decide +kernel
theorem dX9_liesFlat_6 : decode cX9_liesFlat 6 = .ok (.getfield 121, 3) := by decide +kernel
theorem dX9_liesFlat_9 : decode cX9_liesFlat 9 = .ok (.iastore, 1) := by decide +kernel
theorem dX9_liesFlat_10 : decode cX9_liesFlat 10 = .ok (.aload_n 0, 1) := by decide +kernel
theorem dX9_liesFlat_11 : decode cX9_liesFlat 11 = .ok (.getfield 22, 3) := by decide +kernel
theorem dX9_liesFlat_14 : decode cX9_liesFlat 14 = .ok (.iload_n 1, 1) := by decide +kernel
theorem dX9_liesFlat_15 : decode cX9_liesFlat 15 = .ok (.aload_n 0, 1) := by decide +kernel
theorem dX9_liesFlat_16 : decode cX9_liesFlat 16 = .ok (.getfield 124, 3) := by decide +kernel
theorem dX9_liesFlat_19 : decode cX9_liesFlat 19 = .ok (.iastore, 1) := by decide +kernel
theorem dX9_liesFlat_20 : decode cX9_liesFlat 20 = .ok (.iconst 0, 1) := by decide +kernel
theorem dX9_liesFlat_21 : decode cX9_liesFlat 21 = .ok (.istore_n 2, 1) := by decide +kernel
theorem dX9_liesFlat_22 : decode cX9_liesFlat 22 = .ok (.iload_n 2, 1) := by decide +kernel
theorem dX9_liesFlat_23 : decode cX9_liesFlat 23 = .ok (.aload_n 0, 1) := by decide +kernel
theorem dX9_liesFlat_24 : decode cX9_liesFlat 24 = .ok (.invokevirtual 127, 3) := by decide +kernel
theorem dX9_liesFlat_27 : decode cX9_liesFlat 27 = .ok (.if_icmp .ge 67, 3) := by decide +kernel
theorem dX9_liesFlat_30 : decode cX9_liesFlat 30 = .ok (.aload_n 0, 1) := by decide +kernel
theorem dX9_liesFlat_31 : decode cX9_liesFlat 31 = .ok (.getfield 25, 3) := by decide +kernel
theorem dX9_liesFlat_34 : decode cX9_liesFlat 34 = .ok (.bipush 32, 2) := by decide +kernel
theorem dX9_liesFlat_36 : decode cX9_liesFlat 36 = .ok (.iload_n 1, 1) := by decide +kernel
theorem dX9_liesFlat_37 : decode cX9_liesFlat 37 = .ok (.imul, 1) := by decide +kernel
theorem dX9_liesFlat_38 : decode cX9_liesFlat 38 = .ok (.iload_n 2, 1) := by decide +kernel
theorem dX9_liesFlat_39 : decode cX9_liesFlat 39 = .ok (.iadd, 1) := by decide +kernel
theorem dX9_liesFlat_40 : decode cX9_liesFlat 40 = .ok (.iload_n 2, 1) := by decide +kernel
theorem dX9_liesFlat_41 : decode cX9_liesFlat 41 = .ok (.aload_n 0, 1) := by decide +kernel
theorem dX9_liesFlat_42 : decode cX9_liesFlat 42 = .ok (.getfield 124, 3) := by decide +kernel
theorem dX9_liesFlat_45 : decode cX9_liesFlat 45 = .ok (.idiv, 1) := by decide +kernel
theorem dX9_liesFlat_46 : decode cX9_liesFlat 46 = .ok (.iastore, 1) := by decide +kernel
theorem dX9_liesFlat_47 : decode cX9_liesFlat 47 = .ok (.aload_n 0, 1) := by decide +kernel
theorem dX9_liesFlat_48 : decode cX9_liesFlat 48 = .ok (.getfield 28, 3) := by decide +kernel
theorem dX9_liesFlat_51 : decode cX9_liesFlat 51 = .ok (.bipush 32, 2) := by decide +kernel
theorem dX9_liesFlat_53 : decode cX9_liesFlat 53 = .ok (.iload_n 1, 1) := by decide +kernel
theorem dX9_liesFlat_54 : decode cX9_liesFlat 54 = .ok (.imul, 1) := by decide +kernel
theorem dX9_liesFlat_55 : decode cX9_liesFlat 55 = .ok (.iload_n 2, 1) := by decide +kernel
theorem dX9_liesFlat_56 : decode cX9_liesFlat 56 = .ok (.iadd, 1) := by decide +kernel
theorem dX9_liesFlat_57 : decode cX9_liesFlat 57 = .ok (.iload_n 2, 1) := by decide +kernel
theorem dX9_liesFlat_58 : decode cX9_liesFlat 58 = .ok (.aload_n 0, 1) := by decide +kernel
theorem dX9_liesFlat_59 : decode cX9_liesFlat 59 = .ok (.getfield 124, 3) := by decide +kernel
theorem dX9_liesFlat_62 : decode cX9_liesFlat 62 = .ok (.irem, 1) := by decide +kernel
theorem dX9_liesFlat_63 : decode cX9_liesFlat 63 = .ok (.iastore, 1) := by decide +kernel
theorem dX9_liesFlat_64 : decode cX9_liesFlat 64 = .ok (.aload_n 0, 1) := by decide +kernel
theorem dX9_liesFlat_65 : decode cX9_liesFlat 65 = .ok (.getfield 31, 3) := by decide +kernel
theorem dX9_liesFlat_68 : decode cX9_liesFlat 68 = .ok (.bipush 32, 2) := by decide +kernel
theorem dX9_liesFlat_70 : decode cX9_liesFlat 70 = .ok (.iload_n 1, 1) := by decide +kernel
theorem dX9_liesFlat_71 : decode cX9_liesFlat 71 = .ok (.imul, 1) := by decide +kernel
theorem dX9_liesFlat_72 : decode cX9_liesFlat 72 = .ok (.iload_n 2, 1) := by decide +kernel
theorem dX9_liesFlat_73 : decode cX9_liesFlat 73 = .ok (.iadd, 1) := by decide +kernel
theorem dX9_liesFlat_74 : decode cX9_liesFlat 74 = .ok (.iconst 0, 1) := by decide +kernel
theorem dX9_liesFlat_75 : decode cX9_liesFlat 75 = .ok (.iastore, 1) := by decide +kernel
theorem dX9_liesFlat_76 : decode cX9_liesFlat 76 = .ok (.aload_n 0, 1) := by decide +kernel
theorem dX9_liesFlat_77 : decode cX9_liesFlat 77 = .ok (.getfield 34, 3) := by decide +kernel
theorem dX9_liesFlat_80 : decode cX9_liesFlat 80 = .ok (.bipush 32, 2) := by decide +kernel
theorem dX9_liesFlat_82 : decode cX9_liesFlat 82 = .ok (.iload_n 1, 1) := by decide +kernel
theorem dX9_liesFlat_83 : decode cX9_liesFlat 83 = .ok (.imul, 1) := by decide +kernel
theorem dX9_liesFlat_84 : decode cX9_liesFlat 84 = .ok (.iload_n 2, 1) := by decide +kernel
theorem dX9_liesFlat_85 : decode cX9_liesFlat 85 = .ok (.iadd, 1) := by decide +kernel
theorem dX9_liesFlat_86 : decode cX9_liesFlat 86 = .ok (.iconst 0, 1) := by decide +kernel
theorem dX9_liesFlat_87 : decode cX9_liesFlat 87 = .ok (.iastore, 1) := by decide +kernel
theorem dX9_liesFlat_88 : decode cX9_liesFlat 88 = .ok (.iinc 2 1, 3) := by decide +kernel
theorem dX9_liesFlat_91 : decode cX9_liesFlat 91 = .ok (.goto (-69), 3) := by decide +kernel
theorem dX9_liesFlat_94 : decode cX9_liesFlat 94 = .ok (.return_, 1) := by decide +kernel
def fX9_liesFlat_22 (N : Nat)  : Nat → Int32 → Int32 → Int32 → Int32 → List Int32 → List Int32 → List Int32 → List Int32 → List Int32 → List Int32 → Option (List Int32 × List Int32 × List Int32 × List Int32 × List Int32 × List Int32)
  | 0 => fun _ _ _ _ _ _ _ _ _ _ => none
  | n + 1 => fun x1 x2 v_rowsOf v_columnsOf v_shapeRows v_shapeColumns v_row v_column v_below v_face =>
    mm_bd1 (fX9_fields N v_rowsOf v_columnsOf) (fun (r_5 : Int32) =>
    if r_5 ≤ x2 then
    (some (v_shapeRows, v_shapeColumns, v_row, v_column, v_below, v_face))
    else (mm_ck (mm_nz v_columnsOf) (mm_nm ((x2 / v_columnsOf)) (fun (y_9 : Int32) =>
    mm_ck (mm_inb (((32 : Int32) * x1) + x2) v_row.length) (mm_nm (mm_is v_row (((32 : Int32) * x1) + x2) y_9) (fun (l_11 : List Int32) =>
    mm_ck (mm_nz v_columnsOf) (mm_nm ((mm_rem x2 v_columnsOf)) (fun (y_13 : Int32) =>
    mm_ck (mm_inb (((32 : Int32) * x1) + x2) v_column.length) (mm_nm (mm_is v_column (((32 : Int32) * x1) + x2) y_13) (fun (l_15 : List Int32) =>
    mm_ck (mm_inb (((32 : Int32) * x1) + x2) v_below.length) (mm_nm (mm_is v_below (((32 : Int32) * x1) + x2) (0 : Int32)) (fun (l_17 : List Int32) =>
    mm_ck (mm_inb (((32 : Int32) * x1) + x2) v_face.length) (mm_nm (mm_is v_face (((32 : Int32) * x1) + x2) (0 : Int32)) (fun (l_19 : List Int32) =>
    mm_nm (x2 + (1 : Int32)) (fun (y_20 : Int32) =>
    fX9_liesFlat_22 N n x1 y_20 v_rowsOf v_columnsOf v_shapeRows v_shapeColumns l_11 l_15 l_17 l_19)))))))))))))))

set_option maxHeartbeats 4000000 in
set_option maxRecDepth 100000 in
theorem tX9_liesFlat_22 {p : Program} {l : Launch} {e : Env} {s : State} {m : MethodId} {args : Array Value} {below : List Frame} {meth : Method} {c : Code} {D : va_G} {cI cL cS cH : ClassId} {A : Nat → Prop} {d : Nat} {a : Nat → Nat} (hd : 2 ≤ d) (C0 : mm_Cx p s m args meth c RX9 cX9_liesFlat 3 none D (mm_T cI cL cS cH) A) (hA : ∀ q, s.heap.size ≤ q → A q) {v_keptMany : Int32} {v_done : Int32} {v_folded : Int32} {v_wronged : Int32} {v_tapeMany : Int32} {v_textMany : Int32} {v_base : Int32} {v_at : Int32} {v_ends : Int32} {v_fault : Int32} {v_opened : Int32} {v_bentMany : Int32} {v_bentWrong : Int32} {v_moreWorn : Int32} {v_planned : Int32} {v_allWrong : Int32} {v_allWorn : Int32} {v_z : Int32} {v_wishedField : Int32} {v_isFound : Bool} {v_bestWrong : Int32} {v_bestWorn : Int32} {v_bestMany : Int32} {v_soughtBy : Int32} {v_sought : Int32} {v_soughtAt : Int32} {v_foundMany : Int32} {v_foundOrder : Int32} {v_isKept : Bool} {v_imageRows : Int32} {v_imageColumns : Int32} {v_imageFolded : Int32} {v_imageWronged : Int32} {v_bodies : Int32} {v_ran : Int32} {v_ownKind : Int32} {v_ownNumber : Int32} {v_limit : List Int32} {v_changeWas : List Int32} {v_changeIs : List Int32} {v_worn : List Int32} {v_lastBend : List Int32} {v_tape : List Int32} {v_text : List Int32} {v_names : List Int32} {v_bends : List Int32} {v_high : List Int32} {v_to : List Int32} {v_pileSize : List Int32} {v_planLine : List Int32} {v_planWay : List Int32} {v_way1 : List Int32} {v_bestWay : List Int32} {v_order1 : List Int32} {v_placeIn : List Int32} {v_bodyKind : List Int32} {v_trace : List Int32} {v_shelf : List Int32} {v_many : List Int32} {v_items : List Int64} {v_carried : List Int64} {w_shapeRows : List Int32} {w_shapeColumns : List Int32} {w_row : List Int32} {w_column : List Int32} {w_below : List Int32} {w_face : List Int32} (N : Nat)  : ∀ (n : Nat), ∀ (x1 : Int32) (x2 : Int32) (v_rowsOf : Int32) (v_columnsOf : Int32) (v_shapeRows : List Int32) (v_shapeColumns : List Int32) (v_row : List Int32) (v_column : List Int32) (v_below : List Int32) (v_face : List Int32) (H : Heap) (locs : List Loc) (ls : Array Slot), fX9_liesFlat_22 N n x1 x2 v_rowsOf v_columnsOf v_shapeRows v_shapeColumns v_row v_column v_below v_face = some (w_shapeRows, w_shapeColumns, w_row, w_column, w_below, w_face) → va_P D mm_cl (wd_X9 cI cL cS cH a v_keptMany v_done v_rowsOf v_columnsOf v_folded v_wronged v_tapeMany v_textMany v_base v_at v_ends v_fault v_opened v_bentMany v_bentWrong v_moreWorn v_planned v_allWrong v_allWorn v_z v_wishedField v_isFound v_bestWrong v_bestWorn v_bestMany v_soughtBy v_sought v_soughtAt v_foundMany v_foundOrder v_isKept v_imageRows v_imageColumns v_imageFolded v_imageWronged v_bodies v_ran v_ownKind v_ownNumber v_limit v_changeWas v_changeIs v_shapeRows v_shapeColumns v_row v_column v_below v_face v_worn v_lastBend v_tape v_text v_names v_bends v_high v_to v_pileSize v_planLine v_planWay v_way1 v_bestWay v_order1 v_placeIn v_bodyKind v_trace v_shelf v_many v_items v_carried) H → va_D A (wd_X9 cI cL cS cH a v_keptMany v_done v_rowsOf v_columnsOf v_folded v_wronged v_tapeMany v_textMany v_base v_at v_ends v_fault v_opened v_bentMany v_bentWrong v_moreWorn v_planned v_allWrong v_allWorn v_z v_wishedField v_isFound v_bestWrong v_bestWorn v_bestMany v_soughtBy v_sought v_soughtAt v_foundMany v_foundOrder v_isKept v_imageRows v_imageColumns v_imageFolded v_imageWronged v_bodies v_ran v_ownKind v_ownNumber v_limit v_changeWas v_changeIs v_shapeRows v_shapeColumns v_row v_column v_below v_face v_worn v_lastBend v_tape v_text v_names v_bends v_high v_to v_pileSize v_planLine v_planWay v_way1 v_bestWay v_order1 v_placeIn v_bodyKind v_trace v_shelf v_many v_items v_carried) → va_S A s.heap H locs → lv_has ls 3 [(0, .ref (a 0)), (1, .int x1), (2, .int x2)] → W p l e (mm_rr d) s m args below meth c H locs 0 0 (mm_Z below D A (wd_X9 cI cL cS cH a v_keptMany v_done v_rowsOf v_columnsOf v_folded v_wronged v_tapeMany v_textMany v_base v_at v_ends v_fault v_opened v_bentMany v_bentWrong v_moreWorn v_planned v_allWrong v_allWorn v_z v_wishedField v_isFound v_bestWrong v_bestWorn v_bestMany v_soughtBy v_sought v_soughtAt v_foundMany v_foundOrder v_isKept v_imageRows v_imageColumns v_imageFolded v_imageWronged v_bodies v_ran v_ownKind v_ownNumber v_limit v_changeWas v_changeIs w_shapeRows w_shapeColumns w_row w_column w_below w_face v_worn v_lastBend v_tape v_text v_names v_bends v_high v_to v_pileSize v_planLine v_planWay v_way1 v_bestWay v_order1 v_placeIn v_bodyKind v_trace v_shelf v_many v_items v_carried) none args s) (F0 m 22 ls []) := by
  obtain ⟨hx, hb, hml, hown, hts, hr, hlocks, hK, hSt⟩ := id C0
  intro n
  induction n with
  | zero =>
    intro x1 x2 v_rowsOf v_columnsOf v_shapeRows v_shapeColumns v_row v_column v_below v_face H locs ls hf
    cases (show none = some _ from hf)
  | succ n ih =>
    intro x1 x2 v_rowsOf v_columnsOf v_shapeRows v_shapeColumns v_row v_column v_below v_face H locs ls hf hP hD hS hl
    unfold fX9_liesFlat_22 at hf
    refine lv_iload_n hx hb dX9_liesFlat_22 rfl (lv_at hl 2 rfl) ?_
    refine lv_aload_n hx hb dX9_liesFlat_23 rfl (lv_at hl 0 rfl) ?_
    obtain ⟨r_5, hc_6, hf⟩ := mm_bd1s hf
    refine mm_callVF (q0 := 0) (ci := 9) (rest := [.int x2]) C0 lk_X9_127 (ctX9_fields (a := a) (d := d - 1) (by omega) hc_6) (by omega) rfl hl.1 rfl (mm_cat rfl) dX9_liesFlat_24 hP hD hA hS rfl rfl (fun H locs hP hD hS => ?_)
    refine W.eq (g2 := F0 m 27 ls [.int r_5, .int x2]) rfl ?_
    refine lv_icmp_ge (tgt := 94) hx hb dX9_liesFlat_27 (by decide) (fun c_7 => ?_) (fun c_7 => ?_)
    · have hf := mm_ip hf c_7
      apply mm_sub6 hf
      exact mm_vret C0 hP hD hS dX9_liesFlat_94
    · have hf := mm_in hf c_7
      refine lv_aload_n hx hb dX9_liesFlat_30 rfl (lv_at hl 0 rfl) ?_
      refine mm_get C0 hP iw_X9 0 rfl rfl 9 (by decide) fl_X9_25 rfl dX9_liesFlat_31 ?_
      refine lv_bipush (v := 32) hx hb dX9_liesFlat_34 (by decide) ?_
      refine lv_iload_n hx hb dX9_liesFlat_36 rfl (lv_at hl 1 rfl) ?_
      refine lv_imul hx hb dX9_liesFlat_37 ?_
      refine lv_iload_n hx hb dX9_liesFlat_38 rfl (lv_at hl 2 rfl) ?_
      refine lv_iadd hx hb dX9_liesFlat_39 ?_
      refine lv_iload_n hx hb dX9_liesFlat_40 rfl (lv_at hl 2 rfl) ?_
      refine lv_aload_n hx hb dX9_liesFlat_41 rfl (lv_at hl 0 rfl) ?_
      refine mm_get C0 hP iw_X9 0 rfl rfl 6 (by decide) fl_X9_124 rfl dX9_liesFlat_42 ?_
      obtain ⟨h_8, hf⟩ := mm_cks hf
      refine lv_idiv hx hb dX9_liesFlat_45 (mm_nzs h_8) ?_
      refine lv_topi (fun y_9 ey_9 => ?_)
      have hf := mm_nms hf ey_9
      obtain ⟨h_10, hf⟩ := mm_cks hf
      refine mm_iast C0 hP hD hS 6 rfl h_10 dX9_liesFlat_46 (w2 := (wd_X9 cI cL cS cH a v_keptMany v_done v_rowsOf v_columnsOf v_folded v_wronged v_tapeMany v_textMany v_base v_at v_ends v_fault v_opened v_bentMany v_bentWrong v_moreWorn v_planned v_allWrong v_allWorn v_z v_wishedField v_isFound v_bestWrong v_bestWorn v_bestMany v_soughtBy v_sought v_soughtAt v_foundMany v_foundOrder v_isKept v_imageRows v_imageColumns v_imageFolded v_imageWronged v_bodies v_ran v_ownKind v_ownNumber v_limit v_changeWas v_changeIs v_shapeRows v_shapeColumns (mm_is v_row (((32 : Int32) * x1) + x2) y_9) v_column v_below v_face v_worn v_lastBend v_tape v_text v_names v_bends v_high v_to v_pileSize v_planLine v_planWay v_way1 v_bestWay v_order1 v_placeIn v_bodyKind v_trace v_shelf v_many v_items v_carried)) rfl (fun H locs hP hD hS => ?_)
      generalize el_11 : (mm_is v_row (((32 : Int32) * x1) + x2) y_9) = l_11 at hP hD
      have hf := mm_nms hf el_11.symm
      refine lv_aload_n hx hb dX9_liesFlat_47 rfl (lv_at hl 0 rfl) ?_
      refine mm_get C0 hP iw_X9 0 rfl rfl 10 (by decide) fl_X9_28 rfl dX9_liesFlat_48 ?_
      refine lv_bipush (v := 32) hx hb dX9_liesFlat_51 (by decide) ?_
      refine lv_iload_n hx hb dX9_liesFlat_53 rfl (lv_at hl 1 rfl) ?_
      refine lv_imul hx hb dX9_liesFlat_54 ?_
      refine lv_iload_n hx hb dX9_liesFlat_55 rfl (lv_at hl 2 rfl) ?_
      refine lv_iadd hx hb dX9_liesFlat_56 ?_
      refine lv_iload_n hx hb dX9_liesFlat_57 rfl (lv_at hl 2 rfl) ?_
      refine lv_aload_n hx hb dX9_liesFlat_58 rfl (lv_at hl 0 rfl) ?_
      refine mm_get C0 hP iw_X9 0 rfl rfl 6 (by decide) fl_X9_124 rfl dX9_liesFlat_59 ?_
      obtain ⟨h_12, hf⟩ := mm_cks hf
      refine lv_irem hx hb dX9_liesFlat_62 (mm_nzs h_12) ?_
      refine lv_topi (fun y_13 ey_13 => ?_)
      have hf := mm_nms hf ey_13
      obtain ⟨h_14, hf⟩ := mm_cks hf
      refine mm_iast C0 hP hD hS 7 rfl h_14 dX9_liesFlat_63 (w2 := (wd_X9 cI cL cS cH a v_keptMany v_done v_rowsOf v_columnsOf v_folded v_wronged v_tapeMany v_textMany v_base v_at v_ends v_fault v_opened v_bentMany v_bentWrong v_moreWorn v_planned v_allWrong v_allWorn v_z v_wishedField v_isFound v_bestWrong v_bestWorn v_bestMany v_soughtBy v_sought v_soughtAt v_foundMany v_foundOrder v_isKept v_imageRows v_imageColumns v_imageFolded v_imageWronged v_bodies v_ran v_ownKind v_ownNumber v_limit v_changeWas v_changeIs v_shapeRows v_shapeColumns l_11 (mm_is v_column (((32 : Int32) * x1) + x2) y_13) v_below v_face v_worn v_lastBend v_tape v_text v_names v_bends v_high v_to v_pileSize v_planLine v_planWay v_way1 v_bestWay v_order1 v_placeIn v_bodyKind v_trace v_shelf v_many v_items v_carried)) rfl (fun H locs hP hD hS => ?_)
      generalize el_15 : (mm_is v_column (((32 : Int32) * x1) + x2) y_13) = l_15 at hP hD
      have hf := mm_nms hf el_15.symm
      refine lv_aload_n hx hb dX9_liesFlat_64 rfl (lv_at hl 0 rfl) ?_
      refine mm_get C0 hP iw_X9 0 rfl rfl 11 (by decide) fl_X9_31 rfl dX9_liesFlat_65 ?_
      refine lv_bipush (v := 32) hx hb dX9_liesFlat_68 (by decide) ?_
      refine lv_iload_n hx hb dX9_liesFlat_70 rfl (lv_at hl 1 rfl) ?_
      refine lv_imul hx hb dX9_liesFlat_71 ?_
      refine lv_iload_n hx hb dX9_liesFlat_72 rfl (lv_at hl 2 rfl) ?_
      refine lv_iadd hx hb dX9_liesFlat_73 ?_
      refine lv_iconst (v := 0) hx hb dX9_liesFlat_74 (by decide) ?_
      obtain ⟨h_16, hf⟩ := mm_cks hf
      refine mm_iast C0 hP hD hS 8 rfl h_16 dX9_liesFlat_75 (w2 := (wd_X9 cI cL cS cH a v_keptMany v_done v_rowsOf v_columnsOf v_folded v_wronged v_tapeMany v_textMany v_base v_at v_ends v_fault v_opened v_bentMany v_bentWrong v_moreWorn v_planned v_allWrong v_allWorn v_z v_wishedField v_isFound v_bestWrong v_bestWorn v_bestMany v_soughtBy v_sought v_soughtAt v_foundMany v_foundOrder v_isKept v_imageRows v_imageColumns v_imageFolded v_imageWronged v_bodies v_ran v_ownKind v_ownNumber v_limit v_changeWas v_changeIs v_shapeRows v_shapeColumns l_11 l_15 (mm_is v_below (((32 : Int32) * x1) + x2) (0 : Int32)) v_face v_worn v_lastBend v_tape v_text v_names v_bends v_high v_to v_pileSize v_planLine v_planWay v_way1 v_bestWay v_order1 v_placeIn v_bodyKind v_trace v_shelf v_many v_items v_carried)) rfl (fun H locs hP hD hS => ?_)
      generalize el_17 : (mm_is v_below (((32 : Int32) * x1) + x2) (0 : Int32)) = l_17 at hP hD
      have hf := mm_nms hf el_17.symm
      refine lv_aload_n hx hb dX9_liesFlat_76 rfl (lv_at hl 0 rfl) ?_
      refine mm_get C0 hP iw_X9 0 rfl rfl 12 (by decide) fl_X9_34 rfl dX9_liesFlat_77 ?_
      refine lv_bipush (v := 32) hx hb dX9_liesFlat_80 (by decide) ?_
      refine lv_iload_n hx hb dX9_liesFlat_82 rfl (lv_at hl 1 rfl) ?_
      refine lv_imul hx hb dX9_liesFlat_83 ?_
      refine lv_iload_n hx hb dX9_liesFlat_84 rfl (lv_at hl 2 rfl) ?_
      refine lv_iadd hx hb dX9_liesFlat_85 ?_
      refine lv_iconst (v := 0) hx hb dX9_liesFlat_86 (by decide) ?_
      obtain ⟨h_18, hf⟩ := mm_cks hf
      refine mm_iast C0 hP hD hS 9 rfl h_18 dX9_liesFlat_87 (w2 := (wd_X9 cI cL cS cH a v_keptMany v_done v_rowsOf v_columnsOf v_folded v_wronged v_tapeMany v_textMany v_base v_at v_ends v_fault v_opened v_bentMany v_bentWrong v_moreWorn v_planned v_allWrong v_allWorn v_z v_wishedField v_isFound v_bestWrong v_bestWorn v_bestMany v_soughtBy v_sought v_soughtAt v_foundMany v_foundOrder v_isKept v_imageRows v_imageColumns v_imageFolded v_imageWronged v_bodies v_ran v_ownKind v_ownNumber v_limit v_changeWas v_changeIs v_shapeRows v_shapeColumns l_11 l_15 l_17 (mm_is v_face (((32 : Int32) * x1) + x2) (0 : Int32)) v_worn v_lastBend v_tape v_text v_names v_bends v_high v_to v_pileSize v_planLine v_planWay v_way1 v_bestWay v_order1 v_placeIn v_bodyKind v_trace v_shelf v_many v_items v_carried)) rfl (fun H locs hP hD hS => ?_)
      generalize el_19 : (mm_is v_face (((32 : Int32) * x1) + x2) (0 : Int32)) = l_19 at hP hD
      have hf := mm_nms hf el_19.symm
      obtain ⟨y_20, ey_20⟩ : ∃ z : Int32, z = x2 + (1 : Int32) := ⟨_, rfl⟩
      have hf := mm_nms hf ey_20
      refine lv_iinc (v := y_20) (lv' := [(2, .int y_20), (0, .ref (a 0)), (1, .int x1)]) hx hb dX9_liesFlat_88 hl (k := 2) rfl (by rw [ey_20]; rfl) (by decide) rfl (fun ls hl => ?_)
      refine lv_goto (tgt := 22) hx hb dX9_liesFlat_91 (by decide) ?_
      exact ih _ _ _ _ _ _ _ _ _ _ H locs ls hf hP hD hS (lv_sub hl [1, 2, 0] rfl)

def fX9_liesFlat (N : Nat) (x1 : Int32) (v_rowsOf : Int32) (v_columnsOf : Int32) (v_shapeRows : List Int32) (v_shapeColumns : List Int32) (v_row : List Int32) (v_column : List Int32) (v_below : List Int32) (v_face : List Int32) : Option (List Int32 × List Int32 × List Int32 × List Int32 × List Int32 × List Int32) :=
    mm_ck (mm_inb x1 v_shapeRows.length) (mm_nm (mm_is v_shapeRows x1 v_rowsOf) (fun (l_2 : List Int32) =>
    mm_ck (mm_inb x1 v_shapeColumns.length) (mm_nm (mm_is v_shapeColumns x1 v_columnsOf) (fun (l_4 : List Int32) =>
    fX9_liesFlat_22 N N x1 (0 : Int32) v_rowsOf v_columnsOf l_2 l_4 v_row v_column v_below v_face))))

set_option maxHeartbeats 4000000 in
set_option maxRecDepth 100000 in
theorem ctX9_liesFlat {l : Launch} {D : va_G} {cI cL cS cH : ClassId} {a : Nat → Nat} {x1 : Int32} {v_keptMany : Int32} {v_done : Int32} {v_rowsOf : Int32} {v_columnsOf : Int32} {v_folded : Int32} {v_wronged : Int32} {v_tapeMany : Int32} {v_textMany : Int32} {v_base : Int32} {v_at : Int32} {v_ends : Int32} {v_fault : Int32} {v_opened : Int32} {v_bentMany : Int32} {v_bentWrong : Int32} {v_moreWorn : Int32} {v_planned : Int32} {v_allWrong : Int32} {v_allWorn : Int32} {v_z : Int32} {v_wishedField : Int32} {v_isFound : Bool} {v_bestWrong : Int32} {v_bestWorn : Int32} {v_bestMany : Int32} {v_soughtBy : Int32} {v_sought : Int32} {v_soughtAt : Int32} {v_foundMany : Int32} {v_foundOrder : Int32} {v_isKept : Bool} {v_imageRows : Int32} {v_imageColumns : Int32} {v_imageFolded : Int32} {v_imageWronged : Int32} {v_bodies : Int32} {v_ran : Int32} {v_ownKind : Int32} {v_ownNumber : Int32} {v_limit : List Int32} {v_changeWas : List Int32} {v_changeIs : List Int32} {v_shapeRows : List Int32} {v_shapeColumns : List Int32} {v_row : List Int32} {v_column : List Int32} {v_below : List Int32} {v_face : List Int32} {v_worn : List Int32} {v_lastBend : List Int32} {v_tape : List Int32} {v_text : List Int32} {v_names : List Int32} {v_bends : List Int32} {v_high : List Int32} {v_to : List Int32} {v_pileSize : List Int32} {v_planLine : List Int32} {v_planWay : List Int32} {v_way1 : List Int32} {v_bestWay : List Int32} {v_order1 : List Int32} {v_placeIn : List Int32} {v_bodyKind : List Int32} {v_trace : List Int32} {v_shelf : List Int32} {v_many : List Int32} {v_items : List Int64} {v_carried : List Int64} {w_shapeRows : List Int32} {w_shapeColumns : List Int32} {w_row : List Int32} {w_column : List Int32} {w_below : List Int32} {w_face : List Int32} {N d : Nat} (hd : 2 ≤ d) (hf : fX9_liesFlat N x1 v_rowsOf v_columnsOf v_shapeRows v_shapeColumns v_row v_column v_below v_face = some (w_shapeRows, w_shapeColumns, w_row, w_column, w_below, w_face)) : mm_Ct l yX9_liesFlat cX9_liesFlat 3 none d D (mm_T cI cL cS cH) [.ref (a 0), .int x1] (wd_X9 cI cL cS cH a v_keptMany v_done v_rowsOf v_columnsOf v_folded v_wronged v_tapeMany v_textMany v_base v_at v_ends v_fault v_opened v_bentMany v_bentWrong v_moreWorn v_planned v_allWrong v_allWorn v_z v_wishedField v_isFound v_bestWrong v_bestWorn v_bestMany v_soughtBy v_sought v_soughtAt v_foundMany v_foundOrder v_isKept v_imageRows v_imageColumns v_imageFolded v_imageWronged v_bodies v_ran v_ownKind v_ownNumber v_limit v_changeWas v_changeIs v_shapeRows v_shapeColumns v_row v_column v_below v_face v_worn v_lastBend v_tape v_text v_names v_bends v_high v_to v_pileSize v_planLine v_planWay v_way1 v_bestWay v_order1 v_placeIn v_bodyKind v_trace v_shelf v_many v_items v_carried) (wd_X9 cI cL cS cH a v_keptMany v_done v_rowsOf v_columnsOf v_folded v_wronged v_tapeMany v_textMany v_base v_at v_ends v_fault v_opened v_bentMany v_bentWrong v_moreWorn v_planned v_allWrong v_allWorn v_z v_wishedField v_isFound v_bestWrong v_bestWorn v_bestMany v_soughtBy v_sought v_soughtAt v_foundMany v_foundOrder v_isKept v_imageRows v_imageColumns v_imageFolded v_imageWronged v_bodies v_ran v_ownKind v_ownNumber v_limit v_changeWas v_changeIs w_shapeRows w_shapeColumns w_row w_column w_below w_face v_worn v_lastBend v_tape v_text v_names v_bends v_high v_to v_pileSize v_planLine v_planWay v_way1 v_bestWay v_order1 v_placeIn v_bodyKind v_trace v_shelf v_many v_items v_carried) none := by
  refine mm_of (by decide) (Nat.le_of_ble_eq_true rfl) ?_
  intro p e s m args below meth c A H locs ls C0 hP hD hA hS hl
  have C0 : mm_Cx p s m args meth c RX9 cX9_liesFlat 3 none D (mm_T cI cL cS cH) A := C0
  obtain ⟨hx, hb, hml, hown, hts, hr, hlocks, hK, hSt⟩ := id C0
  have hl : lv_has ls 3 [(0, .ref (a 0)), (1, .int x1)] := hl
  unfold fX9_liesFlat at hf
  refine lv_aload_n hx hb dX9_liesFlat_0 rfl (lv_at hl 0 rfl) ?_
  refine mm_get C0 hP iw_X9 0 rfl rfl 7 (by decide) fl_X9_19 rfl dX9_liesFlat_1 ?_
  refine lv_iload_n hx hb dX9_liesFlat_4 rfl (lv_at hl 1 rfl) ?_
  refine lv_aload_n hx hb dX9_liesFlat_5 rfl (lv_at hl 0 rfl) ?_
  refine mm_get C0 hP iw_X9 0 rfl rfl 5 (by decide) fl_X9_121 rfl dX9_liesFlat_6 ?_
  obtain ⟨h_1, hf⟩ := mm_cks hf
  refine mm_iast C0 hP hD hS 4 rfl h_1 dX9_liesFlat_9 (w2 := (wd_X9 cI cL cS cH a v_keptMany v_done v_rowsOf v_columnsOf v_folded v_wronged v_tapeMany v_textMany v_base v_at v_ends v_fault v_opened v_bentMany v_bentWrong v_moreWorn v_planned v_allWrong v_allWorn v_z v_wishedField v_isFound v_bestWrong v_bestWorn v_bestMany v_soughtBy v_sought v_soughtAt v_foundMany v_foundOrder v_isKept v_imageRows v_imageColumns v_imageFolded v_imageWronged v_bodies v_ran v_ownKind v_ownNumber v_limit v_changeWas v_changeIs (mm_is v_shapeRows x1 v_rowsOf) v_shapeColumns v_row v_column v_below v_face v_worn v_lastBend v_tape v_text v_names v_bends v_high v_to v_pileSize v_planLine v_planWay v_way1 v_bestWay v_order1 v_placeIn v_bodyKind v_trace v_shelf v_many v_items v_carried)) rfl (fun H locs hP hD hS => ?_)
  generalize el_2 : (mm_is v_shapeRows x1 v_rowsOf) = l_2 at hP hD
  have hf := mm_nms hf el_2.symm
  refine lv_aload_n hx hb dX9_liesFlat_10 rfl (lv_at hl 0 rfl) ?_
  refine mm_get C0 hP iw_X9 0 rfl rfl 8 (by decide) fl_X9_22 rfl dX9_liesFlat_11 ?_
  refine lv_iload_n hx hb dX9_liesFlat_14 rfl (lv_at hl 1 rfl) ?_
  refine lv_aload_n hx hb dX9_liesFlat_15 rfl (lv_at hl 0 rfl) ?_
  refine mm_get C0 hP iw_X9 0 rfl rfl 6 (by decide) fl_X9_124 rfl dX9_liesFlat_16 ?_
  obtain ⟨h_3, hf⟩ := mm_cks hf
  refine mm_iast C0 hP hD hS 5 rfl h_3 dX9_liesFlat_19 (w2 := (wd_X9 cI cL cS cH a v_keptMany v_done v_rowsOf v_columnsOf v_folded v_wronged v_tapeMany v_textMany v_base v_at v_ends v_fault v_opened v_bentMany v_bentWrong v_moreWorn v_planned v_allWrong v_allWorn v_z v_wishedField v_isFound v_bestWrong v_bestWorn v_bestMany v_soughtBy v_sought v_soughtAt v_foundMany v_foundOrder v_isKept v_imageRows v_imageColumns v_imageFolded v_imageWronged v_bodies v_ran v_ownKind v_ownNumber v_limit v_changeWas v_changeIs l_2 (mm_is v_shapeColumns x1 v_columnsOf) v_row v_column v_below v_face v_worn v_lastBend v_tape v_text v_names v_bends v_high v_to v_pileSize v_planLine v_planWay v_way1 v_bestWay v_order1 v_placeIn v_bodyKind v_trace v_shelf v_many v_items v_carried)) rfl (fun H locs hP hD hS => ?_)
  generalize el_4 : (mm_is v_shapeColumns x1 v_columnsOf) = l_4 at hP hD
  have hf := mm_nms hf el_4.symm
  refine lv_iconst (v := 0) hx hb dX9_liesFlat_20 (by decide) ?_
  refine lv_istore_n (lv' := [(2, .int (0 : Int32)), (0, .ref (a 0)), (1, .int x1)]) hx hb dX9_liesFlat_21 rfl hl (by decide) rfl (fun ls hl => ?_)
  exact tX9_liesFlat_22 hd C0 hA N  N _ _ _ _ _ _ _ _ _ _ H locs ls hf hP hD hS (lv_sub hl [1, 2, 0] rfl)

theorem dX9_isNew_0 : decode cX9_isNew 0 = .ok (.aload_n 0, 1) := by decide +kernel
theorem dX9_isNew_1 : decode cX9_isNew 1 = .ok (.iload_n 1, 1) := by decide +kernel
theorem dX9_isNew_2 : decode cX9_isNew 2 = .ok (.putfield 121, 3) := by decide +kernel
theorem dX9_isNew_5 : decode cX9_isNew 5 = .ok (.aload_n 0, 1) := by decide +kernel
theorem dX9_isNew_6 : decode cX9_isNew 6 = .ok (.iload_n 2, 1) := by decide +kernel
theorem dX9_isNew_7 : decode cX9_isNew 7 = .ok (.putfield 124, 3) := by decide +kernel
theorem dX9_isNew_10 : decode cX9_isNew 10 = .ok (.aload_n 0, 1) := by decide +kernel
theorem dX9_isNew_11 : decode cX9_isNew 11 = .ok (.iconst 0, 1) := by decide +kernel
theorem dX9_isNew_12 : decode cX9_isNew 12 = .ok (.invokevirtual 131, 3) := by decide +kernel
theorem dX9_isNew_15 : decode cX9_isNew 15 = .ok (.iconst 0, 1) := by decide +kernel
theorem dX9_isNew_16 : decode cX9_isNew 16 = .ok (.istore_n 3, 1) := by decide +kernel
theorem dX9_isNew_17 : decode cX9_isNew 17 = .ok (.iload_n 3, 1) := by decide +kernel
theorem dX9_isNew_18 : decode cX9_isNew 18 = .ok (.bipush 64, 2) := by decide +kernel
theorem dX9_isNew_20 : decode cX9_isNew 20 = .ok (.if_icmp .ge 23, 3) := by decide +kernel
theorem dX9_isNew_23 : decode cX9_isNew 23 = .ok (.aload_n 0, 1) := by decide +kernel
theorem dX9_isNew_24 : decode cX9_isNew 24 = .ok (.getfield 37, 3) := by decide +kernel
theorem dX9_isNew_27 : decode cX9_isNew 27 = .ok (.iload_n 3, 1) := by decide +kernel
theorem dX9_isNew_28 : decode cX9_isNew 28 = .ok (.iconst 0, 1) := by decide +kernel
theorem dX9_isNew_29 : decode cX9_isNew 29 = .ok (.iastore, 1) := by decide +kernel
theorem dX9_isNew_30 : decode cX9_isNew 30 = .ok (.aload_n 0, 1) := by decide +kernel
theorem dX9_isNew_31 : decode cX9_isNew 31 = .ok (.getfield 40, 3) := by decide +kernel
theorem dX9_isNew_34 : decode cX9_isNew 34 = .ok (.iload_n 3, 1) := by decide +kernel
theorem dX9_isNew_35 : decode cX9_isNew 35 = .ok (.iconst 0, 1) := by decide +kernel
theorem dX9_isNew_36 : decode cX9_isNew 36 = .ok (.iastore, 1) := by decide +kernel
theorem dX9_isNew_37 : decode cX9_isNew 37 = .ok (.iinc 3 1, 3) := by decide +kernel
theorem dX9_isNew_40 : decode cX9_isNew 40 = .ok (.goto (-23), 3) := by decide +kernel
theorem dX9_isNew_43 : decode cX9_isNew 43 = .ok (.aload_n 0, 1) := by decide +kernel
theorem dX9_isNew_44 : decode cX9_isNew 44 = .ok (.iconst 0, 1) := by decide +kernel
theorem dX9_isNew_45 : decode cX9_isNew 45 = .ok (.putfield 135, 3) := by decide +kernel
theorem dX9_isNew_48 : decode cX9_isNew 48 = .ok (.aload_n 0, 1) := by decide +kernel
theorem dX9_isNew_49 : decode cX9_isNew 49 = .ok (.iconst 0, 1) := by decide +kernel
theorem dX9_isNew_50 : decode cX9_isNew 50 = .ok (.putfield 138, 3) := by decide +kernel
theorem dX9_isNew_53 : decode cX9_isNew 53 = .ok (.return_, 1) := by decide +kernel
def fX9_isNew_17 (N : Nat)  : Nat → Int32 → Int32 → Int32 → Int32 → Int32 → List Int32 → List Int32 → List Int32 → List Int32 → List Int32 → List Int32 → List Int32 → List Int32 → Option (Int32 × Int32 × Int32 × Int32 × List Int32 × List Int32 × List Int32 × List Int32 × List Int32 × List Int32 × List Int32 × List Int32)
  | 0 => fun _ _ _ _ _ _ _ _ _ _ _ _ _ => none
  | n + 1 => fun x3 v_rowsOf v_columnsOf v_folded v_wronged v_shapeRows v_shapeColumns v_row v_column v_below v_face v_worn v_lastBend =>
    if (64 : Int32) ≤ x3 then
    (some (v_rowsOf, v_columnsOf, (0 : Int32), (0 : Int32), v_shapeRows, v_shapeColumns, v_row, v_column, v_below, v_face, v_worn, v_lastBend))
    else (mm_ck (mm_inb x3 v_worn.length) (mm_nm (mm_is v_worn x3 (0 : Int32)) (fun (l_10 : List Int32) =>
    mm_ck (mm_inb x3 v_lastBend.length) (mm_nm (mm_is v_lastBend x3 (0 : Int32)) (fun (l_12 : List Int32) =>
    mm_nm (x3 + (1 : Int32)) (fun (y_13 : Int32) =>
    fX9_isNew_17 N n y_13 v_rowsOf v_columnsOf v_folded v_wronged v_shapeRows v_shapeColumns v_row v_column v_below v_face l_10 l_12))))))

set_option maxHeartbeats 4000000 in
set_option maxRecDepth 100000 in
theorem tX9_isNew_17 {p : Program} {l : Launch} {e : Env} {s : State} {m : MethodId} {args : Array Value} {below : List Frame} {meth : Method} {c : Code} {D : va_G} {cI cL cS cH : ClassId} {A : Nat → Prop} {d : Nat} {a : Nat → Nat} (hd : 3 ≤ d) (C0 : mm_Cx p s m args meth c RX9 cX9_isNew 4 none D (mm_T cI cL cS cH) A) (hA : ∀ q, s.heap.size ≤ q → A q) {v_keptMany : Int32} {v_done : Int32} {v_tapeMany : Int32} {v_textMany : Int32} {v_base : Int32} {v_at : Int32} {v_ends : Int32} {v_fault : Int32} {v_opened : Int32} {v_bentMany : Int32} {v_bentWrong : Int32} {v_moreWorn : Int32} {v_planned : Int32} {v_allWrong : Int32} {v_allWorn : Int32} {v_z : Int32} {v_wishedField : Int32} {v_isFound : Bool} {v_bestWrong : Int32} {v_bestWorn : Int32} {v_bestMany : Int32} {v_soughtBy : Int32} {v_sought : Int32} {v_soughtAt : Int32} {v_foundMany : Int32} {v_foundOrder : Int32} {v_isKept : Bool} {v_imageRows : Int32} {v_imageColumns : Int32} {v_imageFolded : Int32} {v_imageWronged : Int32} {v_bodies : Int32} {v_ran : Int32} {v_ownKind : Int32} {v_ownNumber : Int32} {v_limit : List Int32} {v_changeWas : List Int32} {v_changeIs : List Int32} {v_tape : List Int32} {v_text : List Int32} {v_names : List Int32} {v_bends : List Int32} {v_high : List Int32} {v_to : List Int32} {v_pileSize : List Int32} {v_planLine : List Int32} {v_planWay : List Int32} {v_way1 : List Int32} {v_bestWay : List Int32} {v_order1 : List Int32} {v_placeIn : List Int32} {v_bodyKind : List Int32} {v_trace : List Int32} {v_shelf : List Int32} {v_many : List Int32} {v_items : List Int64} {v_carried : List Int64} {w_rowsOf : Int32} {w_columnsOf : Int32} {w_folded : Int32} {w_wronged : Int32} {w_shapeRows : List Int32} {w_shapeColumns : List Int32} {w_row : List Int32} {w_column : List Int32} {w_below : List Int32} {w_face : List Int32} {w_worn : List Int32} {w_lastBend : List Int32} (N : Nat)  : ∀ (n : Nat), ∀ (x3 : Int32) (v_rowsOf : Int32) (v_columnsOf : Int32) (v_folded : Int32) (v_wronged : Int32) (v_shapeRows : List Int32) (v_shapeColumns : List Int32) (v_row : List Int32) (v_column : List Int32) (v_below : List Int32) (v_face : List Int32) (v_worn : List Int32) (v_lastBend : List Int32) (H : Heap) (locs : List Loc) (ls : Array Slot), fX9_isNew_17 N n x3 v_rowsOf v_columnsOf v_folded v_wronged v_shapeRows v_shapeColumns v_row v_column v_below v_face v_worn v_lastBend = some (w_rowsOf, w_columnsOf, w_folded, w_wronged, w_shapeRows, w_shapeColumns, w_row, w_column, w_below, w_face, w_worn, w_lastBend) → va_P D mm_cl (wd_X9 cI cL cS cH a v_keptMany v_done v_rowsOf v_columnsOf v_folded v_wronged v_tapeMany v_textMany v_base v_at v_ends v_fault v_opened v_bentMany v_bentWrong v_moreWorn v_planned v_allWrong v_allWorn v_z v_wishedField v_isFound v_bestWrong v_bestWorn v_bestMany v_soughtBy v_sought v_soughtAt v_foundMany v_foundOrder v_isKept v_imageRows v_imageColumns v_imageFolded v_imageWronged v_bodies v_ran v_ownKind v_ownNumber v_limit v_changeWas v_changeIs v_shapeRows v_shapeColumns v_row v_column v_below v_face v_worn v_lastBend v_tape v_text v_names v_bends v_high v_to v_pileSize v_planLine v_planWay v_way1 v_bestWay v_order1 v_placeIn v_bodyKind v_trace v_shelf v_many v_items v_carried) H → va_D A (wd_X9 cI cL cS cH a v_keptMany v_done v_rowsOf v_columnsOf v_folded v_wronged v_tapeMany v_textMany v_base v_at v_ends v_fault v_opened v_bentMany v_bentWrong v_moreWorn v_planned v_allWrong v_allWorn v_z v_wishedField v_isFound v_bestWrong v_bestWorn v_bestMany v_soughtBy v_sought v_soughtAt v_foundMany v_foundOrder v_isKept v_imageRows v_imageColumns v_imageFolded v_imageWronged v_bodies v_ran v_ownKind v_ownNumber v_limit v_changeWas v_changeIs v_shapeRows v_shapeColumns v_row v_column v_below v_face v_worn v_lastBend v_tape v_text v_names v_bends v_high v_to v_pileSize v_planLine v_planWay v_way1 v_bestWay v_order1 v_placeIn v_bodyKind v_trace v_shelf v_many v_items v_carried) → va_S A s.heap H locs → lv_has ls 4 [(0, .ref (a 0)), (3, .int x3)] → W p l e (mm_rr d) s m args below meth c H locs 0 0 (mm_Z below D A (wd_X9 cI cL cS cH a v_keptMany v_done w_rowsOf w_columnsOf w_folded w_wronged v_tapeMany v_textMany v_base v_at v_ends v_fault v_opened v_bentMany v_bentWrong v_moreWorn v_planned v_allWrong v_allWorn v_z v_wishedField v_isFound v_bestWrong v_bestWorn v_bestMany v_soughtBy v_sought v_soughtAt v_foundMany v_foundOrder v_isKept v_imageRows v_imageColumns v_imageFolded v_imageWronged v_bodies v_ran v_ownKind v_ownNumber v_limit v_changeWas v_changeIs w_shapeRows w_shapeColumns w_row w_column w_below w_face w_worn w_lastBend v_tape v_text v_names v_bends v_high v_to v_pileSize v_planLine v_planWay v_way1 v_bestWay v_order1 v_placeIn v_bodyKind v_trace v_shelf v_many v_items v_carried) none args s) (F0 m 17 ls []) := by
  obtain ⟨hx, hb, hml, hown, hts, hr, hlocks, hK, hSt⟩ := id C0
  intro n
  induction n with
  | zero =>
    intro x3 v_rowsOf v_columnsOf v_folded v_wronged v_shapeRows v_shapeColumns v_row v_column v_below v_face v_worn v_lastBend H locs ls hf
    cases (show none = some _ from hf)
  | succ n ih =>
    intro x3 v_rowsOf v_columnsOf v_folded v_wronged v_shapeRows v_shapeColumns v_row v_column v_below v_face v_worn v_lastBend H locs ls hf hP hD hS hl
    unfold fX9_isNew_17 at hf
    refine lv_iload_n hx hb dX9_isNew_17 rfl (lv_at hl 1 rfl) ?_
    refine lv_bipush (v := 64) hx hb dX9_isNew_18 (by decide) ?_
    refine lv_icmp_ge (tgt := 43) hx hb dX9_isNew_20 (by decide) (fun c_8 => ?_) (fun c_8 => ?_)
    · have hf := mm_ip hf c_8
      refine lv_aload_n hx hb dX9_isNew_43 rfl (lv_at hl 0 rfl) ?_
      refine lv_iconst (v := 0) hx hb dX9_isNew_44 (by decide) ?_
      refine mm_put C0 hP hD hS iw_X9 tyX9 tyX9_ok nmX9 0 rfl rfl 15 (by decide) fl_X9_135 rfl rfl rfl (Nat.le_of_ble_eq_true rfl) dX9_isNew_45 (w2 := (wd_X9 cI cL cS cH a v_keptMany v_done v_rowsOf v_columnsOf (0 : Int32) v_wronged v_tapeMany v_textMany v_base v_at v_ends v_fault v_opened v_bentMany v_bentWrong v_moreWorn v_planned v_allWrong v_allWorn v_z v_wishedField v_isFound v_bestWrong v_bestWorn v_bestMany v_soughtBy v_sought v_soughtAt v_foundMany v_foundOrder v_isKept v_imageRows v_imageColumns v_imageFolded v_imageWronged v_bodies v_ran v_ownKind v_ownNumber v_limit v_changeWas v_changeIs v_shapeRows v_shapeColumns v_row v_column v_below v_face v_worn v_lastBend v_tape v_text v_names v_bends v_high v_to v_pileSize v_planLine v_planWay v_way1 v_bestWay v_order1 v_placeIn v_bodyKind v_trace v_shelf v_many v_items v_carried)) rfl (fun H locs hP hD hS => ?_)
      refine lv_aload_n hx hb dX9_isNew_48 rfl (lv_at hl 0 rfl) ?_
      refine lv_iconst (v := 0) hx hb dX9_isNew_49 (by decide) ?_
      refine mm_put C0 hP hD hS iw_X9 tyX9 tyX9_ok nmX9 0 rfl rfl 16 (by decide) fl_X9_138 rfl rfl rfl (Nat.le_of_ble_eq_true rfl) dX9_isNew_50 (w2 := (wd_X9 cI cL cS cH a v_keptMany v_done v_rowsOf v_columnsOf (0 : Int32) (0 : Int32) v_tapeMany v_textMany v_base v_at v_ends v_fault v_opened v_bentMany v_bentWrong v_moreWorn v_planned v_allWrong v_allWorn v_z v_wishedField v_isFound v_bestWrong v_bestWorn v_bestMany v_soughtBy v_sought v_soughtAt v_foundMany v_foundOrder v_isKept v_imageRows v_imageColumns v_imageFolded v_imageWronged v_bodies v_ran v_ownKind v_ownNumber v_limit v_changeWas v_changeIs v_shapeRows v_shapeColumns v_row v_column v_below v_face v_worn v_lastBend v_tape v_text v_names v_bends v_high v_to v_pileSize v_planLine v_planWay v_way1 v_bestWay v_order1 v_placeIn v_bodyKind v_trace v_shelf v_many v_items v_carried)) rfl (fun H locs hP hD hS => ?_)
      apply mm_sub12 hf
      exact mm_vret C0 hP hD hS dX9_isNew_53
    · have hf := mm_in hf c_8
      refine lv_aload_n hx hb dX9_isNew_23 rfl (lv_at hl 0 rfl) ?_
      refine mm_get C0 hP iw_X9 0 rfl rfl 13 (by decide) fl_X9_37 rfl dX9_isNew_24 ?_
      refine lv_iload_n hx hb dX9_isNew_27 rfl (lv_at hl 1 rfl) ?_
      refine lv_iconst (v := 0) hx hb dX9_isNew_28 (by decide) ?_
      obtain ⟨h_9, hf⟩ := mm_cks hf
      refine mm_iast C0 hP hD hS 10 rfl h_9 dX9_isNew_29 (w2 := (wd_X9 cI cL cS cH a v_keptMany v_done v_rowsOf v_columnsOf v_folded v_wronged v_tapeMany v_textMany v_base v_at v_ends v_fault v_opened v_bentMany v_bentWrong v_moreWorn v_planned v_allWrong v_allWorn v_z v_wishedField v_isFound v_bestWrong v_bestWorn v_bestMany v_soughtBy v_sought v_soughtAt v_foundMany v_foundOrder v_isKept v_imageRows v_imageColumns v_imageFolded v_imageWronged v_bodies v_ran v_ownKind v_ownNumber v_limit v_changeWas v_changeIs v_shapeRows v_shapeColumns v_row v_column v_below v_face (mm_is v_worn x3 (0 : Int32)) v_lastBend v_tape v_text v_names v_bends v_high v_to v_pileSize v_planLine v_planWay v_way1 v_bestWay v_order1 v_placeIn v_bodyKind v_trace v_shelf v_many v_items v_carried)) rfl (fun H locs hP hD hS => ?_)
      generalize el_10 : (mm_is v_worn x3 (0 : Int32)) = l_10 at hP hD
      have hf := mm_nms hf el_10.symm
      refine lv_aload_n hx hb dX9_isNew_30 rfl (lv_at hl 0 rfl) ?_
      refine mm_get C0 hP iw_X9 0 rfl rfl 14 (by decide) fl_X9_40 rfl dX9_isNew_31 ?_
      refine lv_iload_n hx hb dX9_isNew_34 rfl (lv_at hl 1 rfl) ?_
      refine lv_iconst (v := 0) hx hb dX9_isNew_35 (by decide) ?_
      obtain ⟨h_11, hf⟩ := mm_cks hf
      refine mm_iast C0 hP hD hS 11 rfl h_11 dX9_isNew_36 (w2 := (wd_X9 cI cL cS cH a v_keptMany v_done v_rowsOf v_columnsOf v_folded v_wronged v_tapeMany v_textMany v_base v_at v_ends v_fault v_opened v_bentMany v_bentWrong v_moreWorn v_planned v_allWrong v_allWorn v_z v_wishedField v_isFound v_bestWrong v_bestWorn v_bestMany v_soughtBy v_sought v_soughtAt v_foundMany v_foundOrder v_isKept v_imageRows v_imageColumns v_imageFolded v_imageWronged v_bodies v_ran v_ownKind v_ownNumber v_limit v_changeWas v_changeIs v_shapeRows v_shapeColumns v_row v_column v_below v_face l_10 (mm_is v_lastBend x3 (0 : Int32)) v_tape v_text v_names v_bends v_high v_to v_pileSize v_planLine v_planWay v_way1 v_bestWay v_order1 v_placeIn v_bodyKind v_trace v_shelf v_many v_items v_carried)) rfl (fun H locs hP hD hS => ?_)
      generalize el_12 : (mm_is v_lastBend x3 (0 : Int32)) = l_12 at hP hD
      have hf := mm_nms hf el_12.symm
      obtain ⟨y_13, ey_13⟩ : ∃ z : Int32, z = x3 + (1 : Int32) := ⟨_, rfl⟩
      have hf := mm_nms hf ey_13
      refine lv_iinc (v := y_13) (lv' := [(3, .int y_13), (0, .ref (a 0))]) hx hb dX9_isNew_37 hl (k := 1) rfl (by rw [ey_13]; rfl) (by decide) rfl (fun ls hl => ?_)
      refine lv_goto (tgt := 17) hx hb dX9_isNew_40 (by decide) ?_
      exact ih _ _ _ _ _ _ _ _ _ _ _ _ _ H locs ls hf hP hD hS (lv_sub hl [1, 0] rfl)

def fX9_isNew (N : Nat) (x1 : Int32) (x2 : Int32) (v_rowsOf : Int32) (v_columnsOf : Int32) (v_folded : Int32) (v_wronged : Int32) (v_shapeRows : List Int32) (v_shapeColumns : List Int32) (v_row : List Int32) (v_column : List Int32) (v_below : List Int32) (v_face : List Int32) (v_worn : List Int32) (v_lastBend : List Int32) : Option (Int32 × Int32 × Int32 × Int32 × List Int32 × List Int32 × List Int32 × List Int32 × List Int32 × List Int32 × List Int32 × List Int32) :=
    mm_bd6 (fX9_liesFlat N (0 : Int32) x1 x2 v_shapeRows v_shapeColumns v_row v_column v_below v_face) (fun (w_1 : List Int32) (w_2 : List Int32) (w_3 : List Int32) (w_4 : List Int32) (w_5 : List Int32) (w_6 : List Int32) =>
    fX9_isNew_17 N N (0 : Int32) x1 x2 v_folded v_wronged w_1 w_2 w_3 w_4 w_5 w_6 v_worn v_lastBend)

set_option maxHeartbeats 4000000 in
set_option maxRecDepth 100000 in
theorem ctX9_isNew {l : Launch} {D : va_G} {cI cL cS cH : ClassId} {a : Nat → Nat} {x1 : Int32} {x2 : Int32} {v_keptMany : Int32} {v_done : Int32} {v_rowsOf : Int32} {v_columnsOf : Int32} {v_folded : Int32} {v_wronged : Int32} {v_tapeMany : Int32} {v_textMany : Int32} {v_base : Int32} {v_at : Int32} {v_ends : Int32} {v_fault : Int32} {v_opened : Int32} {v_bentMany : Int32} {v_bentWrong : Int32} {v_moreWorn : Int32} {v_planned : Int32} {v_allWrong : Int32} {v_allWorn : Int32} {v_z : Int32} {v_wishedField : Int32} {v_isFound : Bool} {v_bestWrong : Int32} {v_bestWorn : Int32} {v_bestMany : Int32} {v_soughtBy : Int32} {v_sought : Int32} {v_soughtAt : Int32} {v_foundMany : Int32} {v_foundOrder : Int32} {v_isKept : Bool} {v_imageRows : Int32} {v_imageColumns : Int32} {v_imageFolded : Int32} {v_imageWronged : Int32} {v_bodies : Int32} {v_ran : Int32} {v_ownKind : Int32} {v_ownNumber : Int32} {v_limit : List Int32} {v_changeWas : List Int32} {v_changeIs : List Int32} {v_shapeRows : List Int32} {v_shapeColumns : List Int32} {v_row : List Int32} {v_column : List Int32} {v_below : List Int32} {v_face : List Int32} {v_worn : List Int32} {v_lastBend : List Int32} {v_tape : List Int32} {v_text : List Int32} {v_names : List Int32} {v_bends : List Int32} {v_high : List Int32} {v_to : List Int32} {v_pileSize : List Int32} {v_planLine : List Int32} {v_planWay : List Int32} {v_way1 : List Int32} {v_bestWay : List Int32} {v_order1 : List Int32} {v_placeIn : List Int32} {v_bodyKind : List Int32} {v_trace : List Int32} {v_shelf : List Int32} {v_many : List Int32} {v_items : List Int64} {v_carried : List Int64} {w_rowsOf : Int32} {w_columnsOf : Int32} {w_folded : Int32} {w_wronged : Int32} {w_shapeRows : List Int32} {w_shapeColumns : List Int32} {w_row : List Int32} {w_column : List Int32} {w_below : List Int32} {w_face : List Int32} {w_worn : List Int32} {w_lastBend : List Int32} {N d : Nat} (hd : 3 ≤ d) (hf : fX9_isNew N x1 x2 v_rowsOf v_columnsOf v_folded v_wronged v_shapeRows v_shapeColumns v_row v_column v_below v_face v_worn v_lastBend = some (w_rowsOf, w_columnsOf, w_folded, w_wronged, w_shapeRows, w_shapeColumns, w_row, w_column, w_below, w_face, w_worn, w_lastBend)) : mm_Ct l yX9_isNew cX9_isNew 4 none d D (mm_T cI cL cS cH) [.ref (a 0), .int x1, .int x2] (wd_X9 cI cL cS cH a v_keptMany v_done v_rowsOf v_columnsOf v_folded v_wronged v_tapeMany v_textMany v_base v_at v_ends v_fault v_opened v_bentMany v_bentWrong v_moreWorn v_planned v_allWrong v_allWorn v_z v_wishedField v_isFound v_bestWrong v_bestWorn v_bestMany v_soughtBy v_sought v_soughtAt v_foundMany v_foundOrder v_isKept v_imageRows v_imageColumns v_imageFolded v_imageWronged v_bodies v_ran v_ownKind v_ownNumber v_limit v_changeWas v_changeIs v_shapeRows v_shapeColumns v_row v_column v_below v_face v_worn v_lastBend v_tape v_text v_names v_bends v_high v_to v_pileSize v_planLine v_planWay v_way1 v_bestWay v_order1 v_placeIn v_bodyKind v_trace v_shelf v_many v_items v_carried) (wd_X9 cI cL cS cH a v_keptMany v_done w_rowsOf w_columnsOf w_folded w_wronged v_tapeMany v_textMany v_base v_at v_ends v_fault v_opened v_bentMany v_bentWrong v_moreWorn v_planned v_allWrong v_allWorn v_z v_wishedField v_isFound v_bestWrong v_bestWorn v_bestMany v_soughtBy v_sought v_soughtAt v_foundMany v_foundOrder v_isKept v_imageRows v_imageColumns v_imageFolded v_imageWronged v_bodies v_ran v_ownKind v_ownNumber v_limit v_changeWas v_changeIs w_shapeRows w_shapeColumns w_row w_column w_below w_face w_worn w_lastBend v_tape v_text v_names v_bends v_high v_to v_pileSize v_planLine v_planWay v_way1 v_bestWay v_order1 v_placeIn v_bodyKind v_trace v_shelf v_many v_items v_carried) none := by
  refine mm_of (by decide) (Nat.le_of_ble_eq_true rfl) ?_
  intro p e s m args below meth c A H locs ls C0 hP hD hA hS hl
  have C0 : mm_Cx p s m args meth c RX9 cX9_isNew 4 none D (mm_T cI cL cS cH) A := C0
  obtain ⟨hx, hb, hml, hown, hts, hr, hlocks, hK, hSt⟩ := id C0
  have hl : lv_has ls 4 [(0, .ref (a 0)), (1, .int x1), (2, .int x2)] := hl
  unfold fX9_isNew at hf
  refine lv_aload_n hx hb dX9_isNew_0 rfl (lv_at hl 0 rfl) ?_
  refine lv_iload_n hx hb dX9_isNew_1 rfl (lv_at hl 1 rfl) ?_
  refine mm_put C0 hP hD hS iw_X9 tyX9 tyX9_ok nmX9 0 rfl rfl 5 (by decide) fl_X9_121 rfl rfl rfl (Nat.le_of_ble_eq_true rfl) dX9_isNew_2 (w2 := (wd_X9 cI cL cS cH a v_keptMany v_done x1 v_columnsOf v_folded v_wronged v_tapeMany v_textMany v_base v_at v_ends v_fault v_opened v_bentMany v_bentWrong v_moreWorn v_planned v_allWrong v_allWorn v_z v_wishedField v_isFound v_bestWrong v_bestWorn v_bestMany v_soughtBy v_sought v_soughtAt v_foundMany v_foundOrder v_isKept v_imageRows v_imageColumns v_imageFolded v_imageWronged v_bodies v_ran v_ownKind v_ownNumber v_limit v_changeWas v_changeIs v_shapeRows v_shapeColumns v_row v_column v_below v_face v_worn v_lastBend v_tape v_text v_names v_bends v_high v_to v_pileSize v_planLine v_planWay v_way1 v_bestWay v_order1 v_placeIn v_bodyKind v_trace v_shelf v_many v_items v_carried)) rfl (fun H locs hP hD hS => ?_)
  refine lv_aload_n hx hb dX9_isNew_5 rfl (lv_at hl 0 rfl) ?_
  refine lv_iload_n hx hb dX9_isNew_6 rfl (lv_at hl 2 rfl) ?_
  refine mm_put C0 hP hD hS iw_X9 tyX9 tyX9_ok nmX9 0 rfl rfl 6 (by decide) fl_X9_124 rfl rfl rfl (Nat.le_of_ble_eq_true rfl) dX9_isNew_7 (w2 := (wd_X9 cI cL cS cH a v_keptMany v_done x1 x2 v_folded v_wronged v_tapeMany v_textMany v_base v_at v_ends v_fault v_opened v_bentMany v_bentWrong v_moreWorn v_planned v_allWrong v_allWorn v_z v_wishedField v_isFound v_bestWrong v_bestWorn v_bestMany v_soughtBy v_sought v_soughtAt v_foundMany v_foundOrder v_isKept v_imageRows v_imageColumns v_imageFolded v_imageWronged v_bodies v_ran v_ownKind v_ownNumber v_limit v_changeWas v_changeIs v_shapeRows v_shapeColumns v_row v_column v_below v_face v_worn v_lastBend v_tape v_text v_names v_bends v_high v_to v_pileSize v_planLine v_planWay v_way1 v_bestWay v_order1 v_placeIn v_bodyKind v_trace v_shelf v_many v_items v_carried)) rfl (fun H locs hP hD hS => ?_)
  refine lv_aload_n hx hb dX9_isNew_10 rfl (lv_at hl 0 rfl) ?_
  refine lv_iconst (v := 0) hx hb dX9_isNew_11 (by decide) ?_
  refine mm_ct6 hf (fun w_1 w_2 w_3 w_4 w_5 w_6 hc_7 hf => ?_)
  refine mm_callVF (q0 := 0) (ci := 9) (rest := []) C0 lk_X9_131 (ctX9_liesFlat (a := a) (d := d - 1) (by omega) hc_7) (by omega) rfl hl.1 rfl (mm_cat rfl) dX9_isNew_12 hP hD hA hS rfl rfl (fun H locs hP hD hS => ?_)
  refine W.eq (g2 := F0 m 15 ls []) rfl ?_
  refine lv_iconst (v := 0) hx hb dX9_isNew_15 (by decide) ?_
  refine lv_istore_n (lv' := [(3, .int (0 : Int32)), (0, .ref (a 0)), (1, .int x1), (2, .int x2)]) hx hb dX9_isNew_16 rfl hl (by decide) rfl (fun ls hl => ?_)
  exact tX9_isNew_17 hd C0 hA N  N _ _ _ _ _ _ _ _ _ _ _ _ _ H locs ls hf hP hD hS (lv_sub hl [1, 0] rfl)

theorem dX9_sheet_0 : decode cX9_sheet 0 = .ok (.iload_n 1, 1) := by decide +kernel
theorem dX9_sheet_1 : decode cX9_sheet 1 = .ok (.ifCond .lt 33, 3) := by decide +kernel
theorem dX9_sheet_4 : decode cX9_sheet 4 = .ok (.iload_n 1, 1) := by decide +kernel
theorem dX9_sheet_5 : decode cX9_sheet 5 = .ok (.bipush 10, 2) := by decide +kernel
theorem dX9_sheet_7 : decode cX9_sheet 7 = .ok (.idiv, 1) := by decide +kernel
theorem dX9_sheet_8 : decode cX9_sheet 8 = .ok (.i2l, 1) := by decide +kernel
theorem dX9_sheet_9 : decode cX9_sheet 9 = .ok (.lconst 1, 1) := by decide +kernel
theorem dX9_sheet_10 : decode cX9_sheet 10 = .ok (.ldc2_w 141, 3) := by decide +kernel
theorem dX9_sheet_13 : decode cX9_sheet 13 = .ok (.invokestatic 111, 3) := by decide +kernel
theorem dX9_sheet_16 : decode cX9_sheet 16 = .ok (.ifCond .eq 18, 3) := by decide +kernel
theorem dX9_sheet_19 : decode cX9_sheet 19 = .ok (.iload_n 1, 1) := by decide +kernel
theorem dX9_sheet_20 : decode cX9_sheet 20 = .ok (.bipush 10, 2) := by decide +kernel
theorem dX9_sheet_22 : decode cX9_sheet 22 = .ok (.irem, 1) := by decide +kernel
theorem dX9_sheet_23 : decode cX9_sheet 23 = .ok (.i2l, 1) := by decide +kernel
theorem dX9_sheet_24 : decode cX9_sheet 24 = .ok (.lconst 1, 1) := by decide +kernel
theorem dX9_sheet_25 : decode cX9_sheet 25 = .ok (.ldc2_w 143, 3) := by decide +kernel
theorem dX9_sheet_28 : decode cX9_sheet 28 = .ok (.invokestatic 111, 3) := by decide +kernel
theorem dX9_sheet_31 : decode cX9_sheet 31 = .ok (.ifCond .ne 5, 3) := by decide +kernel
theorem dX9_sheet_34 : decode cX9_sheet 34 = .ok (.iconst (-1), 1) := by decide +kernel
theorem dX9_sheet_35 : decode cX9_sheet 35 = .ok (.ireturn, 1) := by decide +kernel
theorem dX9_sheet_36 : decode cX9_sheet 36 = .ok (.bipush 10, 2) := by decide +kernel
theorem dX9_sheet_38 : decode cX9_sheet 38 = .ok (.aload_n 0, 1) := by decide +kernel
theorem dX9_sheet_39 : decode cX9_sheet 39 = .ok (.getfield 121, 3) := by decide +kernel
theorem dX9_sheet_42 : decode cX9_sheet 42 = .ok (.imul, 1) := by decide +kernel
theorem dX9_sheet_43 : decode cX9_sheet 43 = .ok (.aload_n 0, 1) := by decide +kernel
theorem dX9_sheet_44 : decode cX9_sheet 44 = .ok (.getfield 124, 3) := by decide +kernel
theorem dX9_sheet_47 : decode cX9_sheet 47 = .ok (.iadd, 1) := by decide +kernel
theorem dX9_sheet_48 : decode cX9_sheet 48 = .ok (.istore_n 2, 1) := by decide +kernel
theorem dX9_sheet_49 : decode cX9_sheet 49 = .ok (.aload_n 0, 1) := by decide +kernel
theorem dX9_sheet_50 : decode cX9_sheet 50 = .ok (.iload_n 1, 1) := by decide +kernel
theorem dX9_sheet_51 : decode cX9_sheet 51 = .ok (.bipush 10, 2) := by decide +kernel
theorem dX9_sheet_53 : decode cX9_sheet 53 = .ok (.idiv, 1) := by decide +kernel
theorem dX9_sheet_54 : decode cX9_sheet 54 = .ok (.iload_n 1, 1) := by decide +kernel
theorem dX9_sheet_55 : decode cX9_sheet 55 = .ok (.bipush 10, 2) := by decide +kernel
theorem dX9_sheet_57 : decode cX9_sheet 57 = .ok (.irem, 1) := by decide +kernel
theorem dX9_sheet_58 : decode cX9_sheet 58 = .ok (.invokevirtual 105, 3) := by decide +kernel
theorem dX9_sheet_61 : decode cX9_sheet 61 = .ok (.iload_n 2, 1) := by decide +kernel
theorem dX9_sheet_62 : decode cX9_sheet 62 = .ok (.ireturn, 1) := by decide +kernel
def fX9_sheet (N : Nat) (x1 : Int32) (v_rowsOf : Int32) (v_columnsOf : Int32) (v_folded : Int32) (v_wronged : Int32) (v_shapeRows : List Int32) (v_shapeColumns : List Int32) (v_row : List Int32) (v_column : List Int32) (v_below : List Int32) (v_face : List Int32) (v_worn : List Int32) (v_lastBend : List Int32) : Option (Int32 × Int32 × Int32 × Int32 × Int32 × List Int32 × List Int32 × List Int32 × List Int32 × List Int32 × List Int32 × List Int32 × List Int32) :=
    if x1 < 0 then
    (some ((-1 : Int32), v_rowsOf, v_columnsOf, v_folded, v_wronged, v_shapeRows, v_shapeColumns, v_row, v_column, v_below, v_face, v_worn, v_lastBend))
    else (mm_ck (mm_nz (10 : Int32)) (mm_bd1 (fX9_within N ((x1 / (10 : Int32)).toInt64) (1 : Int64) (4 : Int64)) (fun (r_3 : Bool) =>
    if r_3 = false then
    (some ((-1 : Int32), v_rowsOf, v_columnsOf, v_folded, v_wronged, v_shapeRows, v_shapeColumns, v_row, v_column, v_below, v_face, v_worn, v_lastBend))
    else (mm_ck (mm_nz (10 : Int32)) (mm_bd1 (fX9_within N ((mm_rem x1 (10 : Int32)).toInt64) (1 : Int64) (8 : Int64)) (fun (r_7 : Bool) =>
    if r_7 = false then
    (some ((-1 : Int32), v_rowsOf, v_columnsOf, v_folded, v_wronged, v_shapeRows, v_shapeColumns, v_row, v_column, v_below, v_face, v_worn, v_lastBend))
    else (mm_nm ((((10 : Int32) * v_rowsOf) + v_columnsOf)) (fun (y_10 : Int32) =>
    mm_ck (mm_nz (10 : Int32)) (mm_ck (mm_nz (10 : Int32)) (mm_bd12 (fX9_isNew N (x1 / (10 : Int32)) (mm_rem x1 (10 : Int32)) v_rowsOf v_columnsOf v_folded v_wronged v_shapeRows v_shapeColumns v_row v_column v_below v_face v_worn v_lastBend) (fun (w_13 : Int32) (w_14 : Int32) (w_15 : Int32) (w_16 : Int32) (w_17 : List Int32) (w_18 : List Int32) (w_19 : List Int32) (w_20 : List Int32) (w_21 : List Int32) (w_22 : List Int32) (w_23 : List Int32) (w_24 : List Int32) =>
    some (y_10, w_13, w_14, w_15, w_16, w_17, w_18, w_19, w_20, w_21, w_22, w_23, w_24))))))))))))

set_option maxHeartbeats 4000000 in
set_option maxRecDepth 100000 in
theorem ctX9_sheet {l : Launch} {D : va_G} {cI cL cS cH : ClassId} {a : Nat → Nat} {x1 : Int32} {v_keptMany : Int32} {v_done : Int32} {v_rowsOf : Int32} {v_columnsOf : Int32} {v_folded : Int32} {v_wronged : Int32} {v_tapeMany : Int32} {v_textMany : Int32} {v_base : Int32} {v_at : Int32} {v_ends : Int32} {v_fault : Int32} {v_opened : Int32} {v_bentMany : Int32} {v_bentWrong : Int32} {v_moreWorn : Int32} {v_planned : Int32} {v_allWrong : Int32} {v_allWorn : Int32} {v_z : Int32} {v_wishedField : Int32} {v_isFound : Bool} {v_bestWrong : Int32} {v_bestWorn : Int32} {v_bestMany : Int32} {v_soughtBy : Int32} {v_sought : Int32} {v_soughtAt : Int32} {v_foundMany : Int32} {v_foundOrder : Int32} {v_isKept : Bool} {v_imageRows : Int32} {v_imageColumns : Int32} {v_imageFolded : Int32} {v_imageWronged : Int32} {v_bodies : Int32} {v_ran : Int32} {v_ownKind : Int32} {v_ownNumber : Int32} {v_limit : List Int32} {v_changeWas : List Int32} {v_changeIs : List Int32} {v_shapeRows : List Int32} {v_shapeColumns : List Int32} {v_row : List Int32} {v_column : List Int32} {v_below : List Int32} {v_face : List Int32} {v_worn : List Int32} {v_lastBend : List Int32} {v_tape : List Int32} {v_text : List Int32} {v_names : List Int32} {v_bends : List Int32} {v_high : List Int32} {v_to : List Int32} {v_pileSize : List Int32} {v_planLine : List Int32} {v_planWay : List Int32} {v_way1 : List Int32} {v_bestWay : List Int32} {v_order1 : List Int32} {v_placeIn : List Int32} {v_bodyKind : List Int32} {v_trace : List Int32} {v_shelf : List Int32} {v_many : List Int32} {v_items : List Int64} {v_carried : List Int64} {r : Int32} {w_rowsOf : Int32} {w_columnsOf : Int32} {w_folded : Int32} {w_wronged : Int32} {w_shapeRows : List Int32} {w_shapeColumns : List Int32} {w_row : List Int32} {w_column : List Int32} {w_below : List Int32} {w_face : List Int32} {w_worn : List Int32} {w_lastBend : List Int32} {N d : Nat} (hd : 4 ≤ d) (hf : fX9_sheet N x1 v_rowsOf v_columnsOf v_folded v_wronged v_shapeRows v_shapeColumns v_row v_column v_below v_face v_worn v_lastBend = some (r, w_rowsOf, w_columnsOf, w_folded, w_wronged, w_shapeRows, w_shapeColumns, w_row, w_column, w_below, w_face, w_worn, w_lastBend)) : mm_Ct l yX9_sheet cX9_sheet 3 (some .int) d D (mm_T cI cL cS cH) [.ref (a 0), .int x1] (wd_X9 cI cL cS cH a v_keptMany v_done v_rowsOf v_columnsOf v_folded v_wronged v_tapeMany v_textMany v_base v_at v_ends v_fault v_opened v_bentMany v_bentWrong v_moreWorn v_planned v_allWrong v_allWorn v_z v_wishedField v_isFound v_bestWrong v_bestWorn v_bestMany v_soughtBy v_sought v_soughtAt v_foundMany v_foundOrder v_isKept v_imageRows v_imageColumns v_imageFolded v_imageWronged v_bodies v_ran v_ownKind v_ownNumber v_limit v_changeWas v_changeIs v_shapeRows v_shapeColumns v_row v_column v_below v_face v_worn v_lastBend v_tape v_text v_names v_bends v_high v_to v_pileSize v_planLine v_planWay v_way1 v_bestWay v_order1 v_placeIn v_bodyKind v_trace v_shelf v_many v_items v_carried) (wd_X9 cI cL cS cH a v_keptMany v_done w_rowsOf w_columnsOf w_folded w_wronged v_tapeMany v_textMany v_base v_at v_ends v_fault v_opened v_bentMany v_bentWrong v_moreWorn v_planned v_allWrong v_allWorn v_z v_wishedField v_isFound v_bestWrong v_bestWorn v_bestMany v_soughtBy v_sought v_soughtAt v_foundMany v_foundOrder v_isKept v_imageRows v_imageColumns v_imageFolded v_imageWronged v_bodies v_ran v_ownKind v_ownNumber v_limit v_changeWas v_changeIs w_shapeRows w_shapeColumns w_row w_column w_below w_face w_worn w_lastBend v_tape v_text v_names v_bends v_high v_to v_pileSize v_planLine v_planWay v_way1 v_bestWay v_order1 v_placeIn v_bodyKind v_trace v_shelf v_many v_items v_carried) (some (.int r)) := by
  refine mm_of (by decide) (Nat.le_of_ble_eq_true rfl) ?_
  intro p e s m args below meth c A H locs ls C0 hP hD hA hS hl
  have C0 : mm_Cx p s m args meth c RX9 cX9_sheet 3 (some .int) D (mm_T cI cL cS cH) A := C0
  obtain ⟨hx, hb, hml, hown, hts, hr, hlocks, hK, hSt⟩ := id C0
  have hl : lv_has ls 3 [(0, .ref (a 0)), (1, .int x1)] := hl
  unfold fX9_sheet at hf
  refine lv_iload_n hx hb dX9_sheet_0 rfl (lv_at hl 1 rfl) ?_
  refine lv_if_lt (tgt := 34) hx hb dX9_sheet_1 (by decide) (fun c_1 => ?_) (fun c_1 => ?_)
  · have hf := mm_ip hf c_1
    refine lv_iconst (v := -1) hx hb dX9_sheet_34 (by decide) ?_
    apply mm_sub13 hf
    exact mm_iret C0 hP hD hS dX9_sheet_35
  · have hf := mm_in hf c_1
    refine lv_iload_n hx hb dX9_sheet_4 rfl (lv_at hl 1 rfl) ?_
    refine lv_bipush (v := 10) hx hb dX9_sheet_5 (by decide) ?_
    obtain ⟨h_2, hf⟩ := mm_cks hf
    refine lv_idiv hx hb dX9_sheet_7 (mm_nzs h_2) ?_
    refine lv_i2l hx hb dX9_sheet_8 rfl ?_
    refine lv_lconst (v := 1) hx hb dX9_sheet_9 (by decide) ?_
    refine lv_ldc2 hx hb hown (hts _ kc_X9_141) dX9_sheet_10 ?_
    obtain ⟨r_3, hc_4, hf⟩ := mm_bd1s hf
    refine mm_callS0 (rest := []) C0 lk_X9_111 (ctX9_within (d := d - 1) (by omega) hc_4) (by omega) rfl hl.1 rfl (mm_cat rfl) dX9_sheet_13 hP hD hA hS (fun H locs hP hS => ?_)
    refine W.eq (g2 := F0 m 16 ls [.int (mm_b r_3)]) rfl ?_
    refine lv_if_eq (tgt := 34) hx hb dX9_sheet_16 (by decide) (fun c_5 => ?_) (fun c_5 => ?_)
    · have hf := mm_ip hf (mm_b0 c_5)
      refine lv_iconst (v := -1) hx hb dX9_sheet_34 (by decide) ?_
      apply mm_sub13 hf
      exact mm_iret C0 hP hD hS dX9_sheet_35
    · have hf := mm_in hf (mm_b1 c_5)
      refine lv_iload_n hx hb dX9_sheet_19 rfl (lv_at hl 1 rfl) ?_
      refine lv_bipush (v := 10) hx hb dX9_sheet_20 (by decide) ?_
      obtain ⟨h_6, hf⟩ := mm_cks hf
      refine lv_irem hx hb dX9_sheet_22 (mm_nzs h_6) ?_
      refine lv_i2l hx hb dX9_sheet_23 rfl ?_
      refine lv_lconst (v := 1) hx hb dX9_sheet_24 (by decide) ?_
      refine lv_ldc2 hx hb hown (hts _ kc_X9_143) dX9_sheet_25 ?_
      obtain ⟨r_7, hc_8, hf⟩ := mm_bd1s hf
      refine mm_callS0 (rest := []) C0 lk_X9_111 (ctX9_within (d := d - 1) (by omega) hc_8) (by omega) rfl hl.1 rfl (mm_cat rfl) dX9_sheet_28 hP hD hA hS (fun H locs hP hS => ?_)
      refine W.eq (g2 := F0 m 31 ls [.int (mm_b r_7)]) rfl ?_
      refine lv_if_ne (tgt := 36) hx hb dX9_sheet_31 (by decide) (fun c_9 => ?_) (fun c_9 => ?_)
      · have hf := mm_in hf (mm_b1 c_9)
        refine lv_bipush (v := 10) hx hb dX9_sheet_36 (by decide) ?_
        refine lv_aload_n hx hb dX9_sheet_38 rfl (lv_at hl 0 rfl) ?_
        refine mm_get C0 hP iw_X9 0 rfl rfl 5 (by decide) fl_X9_121 rfl dX9_sheet_39 ?_
        refine lv_imul hx hb dX9_sheet_42 ?_
        refine lv_aload_n hx hb dX9_sheet_43 rfl (lv_at hl 0 rfl) ?_
        refine mm_get C0 hP iw_X9 0 rfl rfl 6 (by decide) fl_X9_124 rfl dX9_sheet_44 ?_
        refine lv_iadd hx hb dX9_sheet_47 ?_
        refine lv_topi (fun y_10 ey_10 => ?_)
        have hf := mm_nms hf ey_10
        refine lv_istore_n (lv' := [(2, .int y_10), (0, .ref (a 0)), (1, .int x1)]) hx hb dX9_sheet_48 rfl hl (by decide) rfl (fun ls hl => ?_)
        refine lv_aload_n hx hb dX9_sheet_49 rfl (lv_at hl 1 rfl) ?_
        refine lv_iload_n hx hb dX9_sheet_50 rfl (lv_at hl 2 rfl) ?_
        refine lv_bipush (v := 10) hx hb dX9_sheet_51 (by decide) ?_
        obtain ⟨h_11, hf⟩ := mm_cks hf
        refine lv_idiv hx hb dX9_sheet_53 (mm_nzs h_11) ?_
        refine lv_iload_n hx hb dX9_sheet_54 rfl (lv_at hl 2 rfl) ?_
        refine lv_bipush (v := 10) hx hb dX9_sheet_55 (by decide) ?_
        obtain ⟨h_12, hf⟩ := mm_cks hf
        refine lv_irem hx hb dX9_sheet_57 (mm_nzs h_12) ?_
        refine mm_ct12 hf (fun w_13 w_14 w_15 w_16 w_17 w_18 w_19 w_20 w_21 w_22 w_23 w_24 hc_25 hf => ?_)
        refine mm_callVF (q0 := 0) (ci := 9) (rest := []) C0 lk_X9_105 (ctX9_isNew (a := a) (d := d - 1) (by omega) hc_25) (by omega) rfl hl.1 rfl (mm_cat rfl) dX9_sheet_58 hP hD hA hS rfl rfl (fun H locs hP hD hS => ?_)
        refine W.eq (g2 := F0 m 61 ls []) rfl ?_
        refine lv_iload_n hx hb dX9_sheet_61 rfl (lv_at hl 0 rfl) ?_
        apply mm_sub13 hf
        exact mm_iret C0 hP hD hS dX9_sheet_62
      · have hf := mm_ip hf (mm_b0 c_9)
        refine lv_iconst (v := -1) hx hb dX9_sheet_34 (by decide) ?_
        apply mm_sub13 hf
        exact mm_iret C0 hP hD hS dX9_sheet_35

theorem dX9_isCrease_0 : decode cX9_isCrease 0 = .ok (.iload_n 1, 1) := by decide +kernel
theorem dX9_isCrease_1 : decode cX9_isCrease 1 = .ok (.iconst 2, 1) := by decide +kernel
theorem dX9_isCrease_2 : decode cX9_isCrease 2 = .ok (.idiv, 1) := by decide +kernel
theorem dX9_isCrease_3 : decode cX9_isCrease 3 = .ok (.istore_n 2, 1) := by decide +kernel
theorem dX9_isCrease_4 : decode cX9_isCrease 4 = .ok (.iload_n 2, 1) := by decide +kernel
theorem dX9_isCrease_5 : decode cX9_isCrease 5 = .ok (.i2l, 1) := by decide +kernel
theorem dX9_isCrease_6 : decode cX9_isCrease 6 = .ok (.lconst 0, 1) := by decide +kernel
theorem dX9_isCrease_7 : decode cX9_isCrease 7 = .ok (.aload_n 0, 1) := by decide +kernel
theorem dX9_isCrease_8 : decode cX9_isCrease 8 = .ok (.invokevirtual 127, 3) := by decide +kernel
theorem dX9_isCrease_11 : decode cX9_isCrease 11 = .ok (.iconst 1, 1) := by decide +kernel
theorem dX9_isCrease_12 : decode cX9_isCrease 12 = .ok (.isub, 1) := by decide +kernel
theorem dX9_isCrease_13 : decode cX9_isCrease 13 = .ok (.i2l, 1) := by decide +kernel
theorem dX9_isCrease_14 : decode cX9_isCrease 14 = .ok (.invokestatic 111, 3) := by decide +kernel
theorem dX9_isCrease_17 : decode cX9_isCrease 17 = .ok (.ifCond .ne 5, 3) := by decide +kernel
theorem dX9_isCrease_20 : decode cX9_isCrease 20 = .ok (.iconst 0, 1) := by decide +kernel
theorem dX9_isCrease_21 : decode cX9_isCrease 21 = .ok (.ireturn, 1) := by decide +kernel
theorem dX9_isCrease_22 : decode cX9_isCrease 22 = .ok (.iload_n 1, 1) := by decide +kernel
theorem dX9_isCrease_23 : decode cX9_isCrease 23 = .ok (.iconst 2, 1) := by decide +kernel
theorem dX9_isCrease_24 : decode cX9_isCrease 24 = .ok (.irem, 1) := by decide +kernel
theorem dX9_isCrease_25 : decode cX9_isCrease 25 = .ok (.ifCond .ne 26, 3) := by decide +kernel
theorem dX9_isCrease_28 : decode cX9_isCrease 28 = .ok (.iload_n 2, 1) := by decide +kernel
theorem dX9_isCrease_29 : decode cX9_isCrease 29 = .ok (.aload_n 0, 1) := by decide +kernel
theorem dX9_isCrease_30 : decode cX9_isCrease 30 = .ok (.getfield 124, 3) := by decide +kernel
theorem dX9_isCrease_33 : decode cX9_isCrease 33 = .ok (.irem, 1) := by decide +kernel
theorem dX9_isCrease_34 : decode cX9_isCrease 34 = .ok (.aload_n 0, 1) := by decide +kernel
theorem dX9_isCrease_35 : decode cX9_isCrease 35 = .ok (.getfield 124, 3) := by decide +kernel
theorem dX9_isCrease_38 : decode cX9_isCrease 38 = .ok (.iconst 1, 1) := by decide +kernel
theorem dX9_isCrease_39 : decode cX9_isCrease 39 = .ok (.isub, 1) := by decide +kernel
theorem dX9_isCrease_40 : decode cX9_isCrease 40 = .ok (.if_icmp .ge 7, 3) := by decide +kernel
theorem dX9_isCrease_43 : decode cX9_isCrease 43 = .ok (.iconst 1, 1) := by decide +kernel
theorem dX9_isCrease_44 : decode cX9_isCrease 44 = .ok (.goto 27, 3) := by decide +kernel
theorem dX9_isCrease_47 : decode cX9_isCrease 47 = .ok (.iconst 0, 1) := by decide +kernel
theorem dX9_isCrease_48 : decode cX9_isCrease 48 = .ok (.goto 23, 3) := by decide +kernel
theorem dX9_isCrease_51 : decode cX9_isCrease 51 = .ok (.iload_n 2, 1) := by decide +kernel
theorem dX9_isCrease_52 : decode cX9_isCrease 52 = .ok (.aload_n 0, 1) := by decide +kernel
theorem dX9_isCrease_53 : decode cX9_isCrease 53 = .ok (.getfield 124, 3) := by decide +kernel
theorem dX9_isCrease_56 : decode cX9_isCrease 56 = .ok (.idiv, 1) := by decide +kernel
theorem dX9_isCrease_57 : decode cX9_isCrease 57 = .ok (.aload_n 0, 1) := by decide +kernel
theorem dX9_isCrease_58 : decode cX9_isCrease 58 = .ok (.getfield 121, 3) := by decide +kernel
theorem dX9_isCrease_61 : decode cX9_isCrease 61 = .ok (.iconst 1, 1) := by decide +kernel
theorem dX9_isCrease_62 : decode cX9_isCrease 62 = .ok (.isub, 1) := by decide +kernel
theorem dX9_isCrease_63 : decode cX9_isCrease 63 = .ok (.if_icmp .ge 7, 3) := by decide +kernel
theorem dX9_isCrease_66 : decode cX9_isCrease 66 = .ok (.iconst 1, 1) := by decide +kernel
theorem dX9_isCrease_67 : decode cX9_isCrease 67 = .ok (.goto 4, 3) := by decide +kernel
theorem dX9_isCrease_70 : decode cX9_isCrease 70 = .ok (.iconst 0, 1) := by decide +kernel
theorem dX9_isCrease_71 : decode cX9_isCrease 71 = .ok (.ireturn, 1) := by decide +kernel
def fX9_isCrease (N : Nat) (x1 : Int32) (v_rowsOf : Int32) (v_columnsOf : Int32) : Option (Bool) :=
    mm_ck (mm_nz (2 : Int32)) (mm_nm ((x1 / (2 : Int32))) (fun (y_2 : Int32) =>
    mm_bd1 (fX9_fields N v_rowsOf v_columnsOf) (fun (r_3 : Int32) =>
    mm_bd1 (fX9_within N ((y_2).toInt64) (0 : Int64) ((r_3 - (1 : Int32)).toInt64)) (fun (r_5 : Bool) =>
    if r_5 = false then
    (some (false))
    else (mm_ck (mm_nz (2 : Int32)) (if (mm_rem x1 (2 : Int32)) = 0 then
    (mm_ck (mm_nz v_columnsOf) (if (v_columnsOf - (1 : Int32)) ≤ (mm_rem y_2 v_columnsOf) then
    (some (false))
    else (some (true))))
    else (mm_ck (mm_nz v_columnsOf) (if (v_rowsOf - (1 : Int32)) ≤ (y_2 / v_columnsOf) then
    (some (false))
    else (some (true))))))))))

set_option maxHeartbeats 4000000 in
set_option maxRecDepth 100000 in
theorem ctX9_isCrease {l : Launch} {D : va_G} {cI cL cS cH : ClassId} {a : Nat → Nat} {x1 : Int32} {v_keptMany : Int32} {v_done : Int32} {v_rowsOf : Int32} {v_columnsOf : Int32} {v_folded : Int32} {v_wronged : Int32} {v_tapeMany : Int32} {v_textMany : Int32} {v_base : Int32} {v_at : Int32} {v_ends : Int32} {v_fault : Int32} {v_opened : Int32} {v_bentMany : Int32} {v_bentWrong : Int32} {v_moreWorn : Int32} {v_planned : Int32} {v_allWrong : Int32} {v_allWorn : Int32} {v_z : Int32} {v_wishedField : Int32} {v_isFound : Bool} {v_bestWrong : Int32} {v_bestWorn : Int32} {v_bestMany : Int32} {v_soughtBy : Int32} {v_sought : Int32} {v_soughtAt : Int32} {v_foundMany : Int32} {v_foundOrder : Int32} {v_isKept : Bool} {v_imageRows : Int32} {v_imageColumns : Int32} {v_imageFolded : Int32} {v_imageWronged : Int32} {v_bodies : Int32} {v_ran : Int32} {v_ownKind : Int32} {v_ownNumber : Int32} {v_limit : List Int32} {v_changeWas : List Int32} {v_changeIs : List Int32} {v_shapeRows : List Int32} {v_shapeColumns : List Int32} {v_row : List Int32} {v_column : List Int32} {v_below : List Int32} {v_face : List Int32} {v_worn : List Int32} {v_lastBend : List Int32} {v_tape : List Int32} {v_text : List Int32} {v_names : List Int32} {v_bends : List Int32} {v_high : List Int32} {v_to : List Int32} {v_pileSize : List Int32} {v_planLine : List Int32} {v_planWay : List Int32} {v_way1 : List Int32} {v_bestWay : List Int32} {v_order1 : List Int32} {v_placeIn : List Int32} {v_bodyKind : List Int32} {v_trace : List Int32} {v_shelf : List Int32} {v_many : List Int32} {v_items : List Int64} {v_carried : List Int64} {r : Bool} {N d : Nat} (hd : 2 ≤ d) (hf : fX9_isCrease N x1 v_rowsOf v_columnsOf = some r) : mm_Ct l yX9_isCrease cX9_isCrease 3 (some .boolean) d D (mm_T cI cL cS cH) [.ref (a 0), .int x1] (wd_X9 cI cL cS cH a v_keptMany v_done v_rowsOf v_columnsOf v_folded v_wronged v_tapeMany v_textMany v_base v_at v_ends v_fault v_opened v_bentMany v_bentWrong v_moreWorn v_planned v_allWrong v_allWorn v_z v_wishedField v_isFound v_bestWrong v_bestWorn v_bestMany v_soughtBy v_sought v_soughtAt v_foundMany v_foundOrder v_isKept v_imageRows v_imageColumns v_imageFolded v_imageWronged v_bodies v_ran v_ownKind v_ownNumber v_limit v_changeWas v_changeIs v_shapeRows v_shapeColumns v_row v_column v_below v_face v_worn v_lastBend v_tape v_text v_names v_bends v_high v_to v_pileSize v_planLine v_planWay v_way1 v_bestWay v_order1 v_placeIn v_bodyKind v_trace v_shelf v_many v_items v_carried) (wd_X9 cI cL cS cH a v_keptMany v_done v_rowsOf v_columnsOf v_folded v_wronged v_tapeMany v_textMany v_base v_at v_ends v_fault v_opened v_bentMany v_bentWrong v_moreWorn v_planned v_allWrong v_allWorn v_z v_wishedField v_isFound v_bestWrong v_bestWorn v_bestMany v_soughtBy v_sought v_soughtAt v_foundMany v_foundOrder v_isKept v_imageRows v_imageColumns v_imageFolded v_imageWronged v_bodies v_ran v_ownKind v_ownNumber v_limit v_changeWas v_changeIs v_shapeRows v_shapeColumns v_row v_column v_below v_face v_worn v_lastBend v_tape v_text v_names v_bends v_high v_to v_pileSize v_planLine v_planWay v_way1 v_bestWay v_order1 v_placeIn v_bodyKind v_trace v_shelf v_many v_items v_carried) (some (.int (mm_b r))) := by
  refine mm_of (by decide) (Nat.le_of_ble_eq_true rfl) ?_
  intro p e s m args below meth c A H locs ls C0 hP hD hA hS hl
  have C0 : mm_Cx p s m args meth c RX9 cX9_isCrease 3 (some .boolean) D (mm_T cI cL cS cH) A := C0
  obtain ⟨hx, hb, hml, hown, hts, hr, hlocks, hK, hSt⟩ := id C0
  have hl : lv_has ls 3 [(0, .ref (a 0)), (1, .int x1)] := hl
  unfold fX9_isCrease at hf
  refine lv_iload_n hx hb dX9_isCrease_0 rfl (lv_at hl 1 rfl) ?_
  refine lv_iconst (v := 2) hx hb dX9_isCrease_1 (by decide) ?_
  obtain ⟨h_1, hf⟩ := mm_cks hf
  refine lv_idiv hx hb dX9_isCrease_2 (mm_nzs h_1) ?_
  refine lv_topi (fun y_2 ey_2 => ?_)
  have hf := mm_nms hf ey_2
  refine lv_istore_n (lv' := [(2, .int y_2), (0, .ref (a 0)), (1, .int x1)]) hx hb dX9_isCrease_3 rfl hl (by decide) rfl (fun ls hl => ?_)
  refine lv_iload_n hx hb dX9_isCrease_4 rfl (lv_at hl 0 rfl) ?_
  refine lv_i2l hx hb dX9_isCrease_5 rfl ?_
  refine lv_lconst (v := 0) hx hb dX9_isCrease_6 (by decide) ?_
  refine lv_aload_n hx hb dX9_isCrease_7 rfl (lv_at hl 1 rfl) ?_
  obtain ⟨r_3, hc_4, hf⟩ := mm_bd1s hf
  refine mm_callVF (q0 := 0) (ci := 9) (rest := [.long (0 : Int64), .long ((y_2).toInt64)]) C0 lk_X9_127 (ctX9_fields (a := a) (d := d - 1) (by omega) hc_4) (by omega) rfl hl.1 rfl (mm_cat rfl) dX9_isCrease_8 hP hD hA hS rfl rfl (fun H locs hP hD hS => ?_)
  refine W.eq (g2 := F0 m 11 ls [.int r_3, .long (0 : Int64), .long ((y_2).toInt64)]) rfl ?_
  refine lv_iconst (v := 1) hx hb dX9_isCrease_11 (by decide) ?_
  refine lv_isub hx hb dX9_isCrease_12 ?_
  refine lv_i2l hx hb dX9_isCrease_13 rfl ?_
  obtain ⟨r_5, hc_6, hf⟩ := mm_bd1s hf
  refine mm_callS0 (rest := []) C0 lk_X9_111 (ctX9_within (d := d - 1) (by omega) hc_6) (by omega) rfl hl.1 rfl (mm_cat rfl) dX9_isCrease_14 hP hD hA hS (fun H locs hP hS => ?_)
  refine W.eq (g2 := F0 m 17 ls [.int (mm_b r_5)]) rfl ?_
  refine lv_if_ne (tgt := 22) hx hb dX9_isCrease_17 (by decide) (fun c_7 => ?_) (fun c_7 => ?_)
  · have hf := mm_in hf (mm_b1 c_7)
    refine lv_iload_n hx hb dX9_isCrease_22 rfl (lv_at hl 2 rfl) ?_
    refine lv_iconst (v := 2) hx hb dX9_isCrease_23 (by decide) ?_
    obtain ⟨h_8, hf⟩ := mm_cks hf
    refine lv_irem hx hb dX9_isCrease_24 (mm_nzs h_8) ?_
    refine lv_if_ne (tgt := 51) hx hb dX9_isCrease_25 (by decide) (fun c_9 => ?_) (fun c_9 => ?_)
    · have hf := mm_in hf c_9
      refine lv_iload_n hx hb dX9_isCrease_51 rfl (lv_at hl 0 rfl) ?_
      refine lv_aload_n hx hb dX9_isCrease_52 rfl (lv_at hl 1 rfl) ?_
      refine mm_get C0 hP iw_X9 0 rfl rfl 6 (by decide) fl_X9_124 rfl dX9_isCrease_53 ?_
      obtain ⟨h_10, hf⟩ := mm_cks hf
      refine lv_idiv hx hb dX9_isCrease_56 (mm_nzs h_10) ?_
      refine lv_aload_n hx hb dX9_isCrease_57 rfl (lv_at hl 1 rfl) ?_
      refine mm_get C0 hP iw_X9 0 rfl rfl 5 (by decide) fl_X9_121 rfl dX9_isCrease_58 ?_
      refine lv_iconst (v := 1) hx hb dX9_isCrease_61 (by decide) ?_
      refine lv_isub hx hb dX9_isCrease_62 ?_
      refine lv_icmp_ge (tgt := 70) hx hb dX9_isCrease_63 (by decide) (fun c_11 => ?_) (fun c_11 => ?_)
      · have hf := mm_ip hf c_11
        refine lv_iconst (v := 0) hx hb dX9_isCrease_70 (by decide) ?_
        obtain rfl := mm_inj1 hf
        exact mm_zret (v := false) C0 hP hD hS dX9_isCrease_71 (by decide)
      · have hf := mm_in hf c_11
        refine lv_iconst (v := 1) hx hb dX9_isCrease_66 (by decide) ?_
        refine lv_goto (tgt := 71) hx hb dX9_isCrease_67 (by decide) ?_
        obtain rfl := mm_inj1 hf
        exact mm_zret (v := true) C0 hP hD hS dX9_isCrease_71 (by decide)
    · have hf := mm_ip hf c_9
      refine lv_iload_n hx hb dX9_isCrease_28 rfl (lv_at hl 0 rfl) ?_
      refine lv_aload_n hx hb dX9_isCrease_29 rfl (lv_at hl 1 rfl) ?_
      refine mm_get C0 hP iw_X9 0 rfl rfl 6 (by decide) fl_X9_124 rfl dX9_isCrease_30 ?_
      obtain ⟨h_12, hf⟩ := mm_cks hf
      refine lv_irem hx hb dX9_isCrease_33 (mm_nzs h_12) ?_
      refine lv_aload_n hx hb dX9_isCrease_34 rfl (lv_at hl 1 rfl) ?_
      refine mm_get C0 hP iw_X9 0 rfl rfl 6 (by decide) fl_X9_124 rfl dX9_isCrease_35 ?_
      refine lv_iconst (v := 1) hx hb dX9_isCrease_38 (by decide) ?_
      refine lv_isub hx hb dX9_isCrease_39 ?_
      refine lv_icmp_ge (tgt := 47) hx hb dX9_isCrease_40 (by decide) (fun c_13 => ?_) (fun c_13 => ?_)
      · have hf := mm_ip hf c_13
        refine lv_iconst (v := 0) hx hb dX9_isCrease_47 (by decide) ?_
        refine lv_goto (tgt := 71) hx hb dX9_isCrease_48 (by decide) ?_
        obtain rfl := mm_inj1 hf
        exact mm_zret (v := false) C0 hP hD hS dX9_isCrease_71 (by decide)
      · have hf := mm_in hf c_13
        refine lv_iconst (v := 1) hx hb dX9_isCrease_43 (by decide) ?_
        refine lv_goto (tgt := 71) hx hb dX9_isCrease_44 (by decide) ?_
        obtain rfl := mm_inj1 hf
        exact mm_zret (v := true) C0 hP hD hS dX9_isCrease_71 (by decide)
  · have hf := mm_ip hf (mm_b0 c_7)
    refine lv_iconst (v := 0) hx hb dX9_isCrease_20 (by decide) ?_
    obtain rfl := mm_inj1 hf
    exact mm_zret (v := false) C0 hP hD hS dX9_isCrease_21 (by decide)

theorem dX9_otherOf_0 : decode cX9_otherOf 0 = .ok (.iload_n 1, 1) := by decide +kernel
theorem dX9_otherOf_1 : decode cX9_otherOf 1 = .ok (.iconst 2, 1) := by decide +kernel
theorem dX9_otherOf_2 : decode cX9_otherOf 2 = .ok (.irem, 1) := by decide +kernel
theorem dX9_otherOf_3 : decode cX9_otherOf 3 = .ok (.ifCond .ne 11, 3) := by decide +kernel
theorem dX9_otherOf_6 : decode cX9_otherOf 6 = .ok (.iload_n 1, 1) := by decide +kernel
theorem dX9_otherOf_7 : decode cX9_otherOf 7 = .ok (.iconst 2, 1) := by decide +kernel
theorem dX9_otherOf_8 : decode cX9_otherOf 8 = .ok (.idiv, 1) := by decide +kernel
theorem dX9_otherOf_9 : decode cX9_otherOf 9 = .ok (.iconst 1, 1) := by decide +kernel
theorem dX9_otherOf_10 : decode cX9_otherOf 10 = .ok (.iadd, 1) := by decide +kernel
theorem dX9_otherOf_11 : decode cX9_otherOf 11 = .ok (.goto 11, 3) := by decide +kernel
theorem dX9_otherOf_14 : decode cX9_otherOf 14 = .ok (.iload_n 1, 1) := by decide +kernel
theorem dX9_otherOf_15 : decode cX9_otherOf 15 = .ok (.iconst 2, 1) := by decide +kernel
theorem dX9_otherOf_16 : decode cX9_otherOf 16 = .ok (.idiv, 1) := by decide +kernel
theorem dX9_otherOf_17 : decode cX9_otherOf 17 = .ok (.aload_n 0, 1) := by decide +kernel
theorem dX9_otherOf_18 : decode cX9_otherOf 18 = .ok (.getfield 124, 3) := by decide +kernel
theorem dX9_otherOf_21 : decode cX9_otherOf 21 = .ok (.iadd, 1) := by decide +kernel
theorem dX9_otherOf_22 : decode cX9_otherOf 22 = .ok (.ireturn, 1) := by decide +kernel
def fX9_otherOf (N : Nat) (x1 : Int32) (v_columnsOf : Int32) : Option (Int32) :=
    mm_ck (mm_nz (2 : Int32)) (if (mm_rem x1 (2 : Int32)) = 0 then
    (mm_ck (mm_nz (2 : Int32)) (some (((x1 / (2 : Int32)) + (1 : Int32)))))
    else (mm_ck (mm_nz (2 : Int32)) (some (((x1 / (2 : Int32)) + v_columnsOf)))))

set_option maxHeartbeats 4000000 in
set_option maxRecDepth 100000 in
theorem ctX9_otherOf {l : Launch} {D : va_G} {cI cL cS cH : ClassId} {a : Nat → Nat} {x1 : Int32} {v_keptMany : Int32} {v_done : Int32} {v_rowsOf : Int32} {v_columnsOf : Int32} {v_folded : Int32} {v_wronged : Int32} {v_tapeMany : Int32} {v_textMany : Int32} {v_base : Int32} {v_at : Int32} {v_ends : Int32} {v_fault : Int32} {v_opened : Int32} {v_bentMany : Int32} {v_bentWrong : Int32} {v_moreWorn : Int32} {v_planned : Int32} {v_allWrong : Int32} {v_allWorn : Int32} {v_z : Int32} {v_wishedField : Int32} {v_isFound : Bool} {v_bestWrong : Int32} {v_bestWorn : Int32} {v_bestMany : Int32} {v_soughtBy : Int32} {v_sought : Int32} {v_soughtAt : Int32} {v_foundMany : Int32} {v_foundOrder : Int32} {v_isKept : Bool} {v_imageRows : Int32} {v_imageColumns : Int32} {v_imageFolded : Int32} {v_imageWronged : Int32} {v_bodies : Int32} {v_ran : Int32} {v_ownKind : Int32} {v_ownNumber : Int32} {v_limit : List Int32} {v_changeWas : List Int32} {v_changeIs : List Int32} {v_shapeRows : List Int32} {v_shapeColumns : List Int32} {v_row : List Int32} {v_column : List Int32} {v_below : List Int32} {v_face : List Int32} {v_worn : List Int32} {v_lastBend : List Int32} {v_tape : List Int32} {v_text : List Int32} {v_names : List Int32} {v_bends : List Int32} {v_high : List Int32} {v_to : List Int32} {v_pileSize : List Int32} {v_planLine : List Int32} {v_planWay : List Int32} {v_way1 : List Int32} {v_bestWay : List Int32} {v_order1 : List Int32} {v_placeIn : List Int32} {v_bodyKind : List Int32} {v_trace : List Int32} {v_shelf : List Int32} {v_many : List Int32} {v_items : List Int64} {v_carried : List Int64} {r : Int32} {N d : Nat} (hd : 1 ≤ d) (hf : fX9_otherOf N x1 v_columnsOf = some r) : mm_Ct l yX9_otherOf cX9_otherOf 2 (some .int) d D (mm_T cI cL cS cH) [.ref (a 0), .int x1] (wd_X9 cI cL cS cH a v_keptMany v_done v_rowsOf v_columnsOf v_folded v_wronged v_tapeMany v_textMany v_base v_at v_ends v_fault v_opened v_bentMany v_bentWrong v_moreWorn v_planned v_allWrong v_allWorn v_z v_wishedField v_isFound v_bestWrong v_bestWorn v_bestMany v_soughtBy v_sought v_soughtAt v_foundMany v_foundOrder v_isKept v_imageRows v_imageColumns v_imageFolded v_imageWronged v_bodies v_ran v_ownKind v_ownNumber v_limit v_changeWas v_changeIs v_shapeRows v_shapeColumns v_row v_column v_below v_face v_worn v_lastBend v_tape v_text v_names v_bends v_high v_to v_pileSize v_planLine v_planWay v_way1 v_bestWay v_order1 v_placeIn v_bodyKind v_trace v_shelf v_many v_items v_carried) (wd_X9 cI cL cS cH a v_keptMany v_done v_rowsOf v_columnsOf v_folded v_wronged v_tapeMany v_textMany v_base v_at v_ends v_fault v_opened v_bentMany v_bentWrong v_moreWorn v_planned v_allWrong v_allWorn v_z v_wishedField v_isFound v_bestWrong v_bestWorn v_bestMany v_soughtBy v_sought v_soughtAt v_foundMany v_foundOrder v_isKept v_imageRows v_imageColumns v_imageFolded v_imageWronged v_bodies v_ran v_ownKind v_ownNumber v_limit v_changeWas v_changeIs v_shapeRows v_shapeColumns v_row v_column v_below v_face v_worn v_lastBend v_tape v_text v_names v_bends v_high v_to v_pileSize v_planLine v_planWay v_way1 v_bestWay v_order1 v_placeIn v_bodyKind v_trace v_shelf v_many v_items v_carried) (some (.int r)) := by
  refine mm_of (by decide) (Nat.le_of_ble_eq_true rfl) ?_
  intro p e s m args below meth c A H locs ls C0 hP hD hA hS hl
  have C0 : mm_Cx p s m args meth c RX9 cX9_otherOf 2 (some .int) D (mm_T cI cL cS cH) A := C0
  obtain ⟨hx, hb, hml, hown, hts, hr, hlocks, hK, hSt⟩ := id C0
  have hl : lv_has ls 2 [(0, .ref (a 0)), (1, .int x1)] := hl
  unfold fX9_otherOf at hf
  refine lv_iload_n hx hb dX9_otherOf_0 rfl (lv_at hl 1 rfl) ?_
  refine lv_iconst (v := 2) hx hb dX9_otherOf_1 (by decide) ?_
  obtain ⟨h_1, hf⟩ := mm_cks hf
  refine lv_irem hx hb dX9_otherOf_2 (mm_nzs h_1) ?_
  refine lv_if_ne (tgt := 14) hx hb dX9_otherOf_3 (by decide) (fun c_2 => ?_) (fun c_2 => ?_)
  · have hf := mm_in hf c_2
    refine lv_iload_n hx hb dX9_otherOf_14 rfl (lv_at hl 1 rfl) ?_
    refine lv_iconst (v := 2) hx hb dX9_otherOf_15 (by decide) ?_
    obtain ⟨h_3, hf⟩ := mm_cks hf
    refine lv_idiv hx hb dX9_otherOf_16 (mm_nzs h_3) ?_
    refine lv_aload_n hx hb dX9_otherOf_17 rfl (lv_at hl 0 rfl) ?_
    refine mm_get C0 hP iw_X9 0 rfl rfl 6 (by decide) fl_X9_124 rfl dX9_otherOf_18 ?_
    refine lv_iadd hx hb dX9_otherOf_21 ?_
    obtain rfl := mm_inj1 hf
    exact mm_iret C0 hP hD hS dX9_otherOf_22
  · have hf := mm_ip hf c_2
    refine lv_iload_n hx hb dX9_otherOf_6 rfl (lv_at hl 1 rfl) ?_
    refine lv_iconst (v := 2) hx hb dX9_otherOf_7 (by decide) ?_
    obtain ⟨h_4, hf⟩ := mm_cks hf
    refine lv_idiv hx hb dX9_otherOf_8 (mm_nzs h_4) ?_
    refine lv_iconst (v := 1) hx hb dX9_otherOf_9 (by decide) ?_
    refine lv_iadd hx hb dX9_otherOf_10 ?_
    refine lv_goto (tgt := 22) hx hb dX9_otherOf_11 (by decide) ?_
    obtain rfl := mm_inj1 hf
    exact mm_iret C0 hP hD hS dX9_otherOf_22

