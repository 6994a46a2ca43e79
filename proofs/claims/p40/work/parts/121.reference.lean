/-! reference: X9_taken, X9_count -/
theorem dX9_taken_0 : decode cX9_taken 0 = .ok (.iload_n 1, 1) := by decide +kernel
theorem dX9_taken_1 : decode cX9_taken 1 = .ok (.invokestatic 274, 3) := by decide +kernel
theorem dX9_taken_4 : decode cX9_taken 4 = .ok (.ifCond .eq 15, 3) := by decide +kernel
theorem dX9_taken_7 : decode cX9_taken 7 = .ok (.iload_n 2, 1) := by decide +kernel
theorem dX9_taken_8 : decode cX9_taken 8 = .ok (.i2l, 1) := by decide +kernel
theorem dX9_taken_9 : decode cX9_taken 9 = .ok (.lconst 0, 1) := by decide +kernel
theorem dX9_taken_10 : decode cX9_taken 10 = .ok (.ldc2_w 238, 3) := by decide +kernel
theorem dX9_taken_13 : decode cX9_taken 13 = .ok (.invokestatic 111, 3) := by decide +kernel
theorem dX9_taken_16 : decode cX9_taken 16 = .ok (.ifCond .ne 5, 3) := by decide +kernel
theorem dX9_taken_19 : decode cX9_taken 19 = .ok (.iconst (-1), 1) := by decide +kernel
theorem dX9_taken_20 : decode cX9_taken 20 = .ok (.ireturn, 1) := by decide +kernel
theorem dX9_taken_21 : decode cX9_taken 21 = .ok (.aload_n 0, 1) := by decide +kernel
theorem dX9_taken_22 : decode cX9_taken 22 = .ok (.getfield 88, 3) := by decide +kernel
theorem dX9_taken_25 : decode cX9_taken 25 = .ok (.iload_n 1, 1) := by decide +kernel
theorem dX9_taken_26 : decode cX9_taken 26 = .ok (.iaload, 1) := by decide +kernel
theorem dX9_taken_27 : decode cX9_taken 27 = .ok (.ifCond .ge 6, 3) := by decide +kernel
theorem dX9_taken_30 : decode cX9_taken 30 = .ok (.bipush (-11), 2) := by decide +kernel
theorem dX9_taken_32 : decode cX9_taken 32 = .ok (.ireturn, 1) := by decide +kernel
theorem dX9_taken_33 : decode cX9_taken 33 = .ok (.aload_n 0, 1) := by decide +kernel
theorem dX9_taken_34 : decode cX9_taken 34 = .ok (.getfield 88, 3) := by decide +kernel
theorem dX9_taken_37 : decode cX9_taken 37 = .ok (.iload_n 1, 1) := by decide +kernel
theorem dX9_taken_38 : decode cX9_taken 38 = .ok (.iaload, 1) := by decide +kernel
theorem dX9_taken_39 : decode cX9_taken 39 = .ok (.bipush 50, 2) := by decide +kernel
theorem dX9_taken_41 : decode cX9_taken 41 = .ok (.if_icmp .lt 6, 3) := by decide +kernel
theorem dX9_taken_44 : decode cX9_taken 44 = .ok (.bipush (-12), 2) := by decide +kernel
theorem dX9_taken_46 : decode cX9_taken 46 = .ok (.ireturn, 1) := by decide +kernel
theorem dX9_taken_47 : decode cX9_taken 47 = .ok (.aload_n 0, 1) := by decide +kernel
theorem dX9_taken_48 : decode cX9_taken 48 = .ok (.aload_n 0, 1) := by decide +kernel
theorem dX9_taken_49 : decode cX9_taken 49 = .ok (.getfield 88, 3) := by decide +kernel
theorem dX9_taken_52 : decode cX9_taken 52 = .ok (.iload_n 1, 1) := by decide +kernel
theorem dX9_taken_53 : decode cX9_taken 53 = .ok (.iaload, 1) := by decide +kernel
theorem dX9_taken_54 : decode cX9_taken 54 = .ok (.invokevirtual 438, 3) := by decide +kernel
theorem dX9_taken_57 : decode cX9_taken 57 = .ok (.istore_n 3, 1) := by decide +kernel
theorem dX9_taken_58 : decode cX9_taken 58 = .ok (.iload_n 3, 1) := by decide +kernel
theorem dX9_taken_59 : decode cX9_taken 59 = .ok (.iload_n 2, 1) := by decide +kernel
theorem dX9_taken_60 : decode cX9_taken 60 = .ok (.if_icmp .eq 15, 3) := by decide +kernel
theorem dX9_taken_63 : decode cX9_taken 63 = .ok (.iload_n 3, 1) := by decide +kernel
theorem dX9_taken_64 : decode cX9_taken 64 = .ok (.ifCond .le 11, 3) := by decide +kernel
theorem dX9_taken_67 : decode cX9_taken 67 = .ok (.iload_n 3, 1) := by decide +kernel
theorem dX9_taken_68 : decode cX9_taken 68 = .ok (.invokestatic 441, 3) := by decide +kernel
theorem dX9_taken_71 : decode cX9_taken 71 = .ok (.istore_n 3, 1) := by decide +kernel
theorem dX9_taken_72 : decode cX9_taken 72 = .ok (.goto (-14), 3) := by decide +kernel
theorem dX9_taken_75 : decode cX9_taken 75 = .ok (.iload_n 3, 1) := by decide +kernel
theorem dX9_taken_76 : decode cX9_taken 76 = .ok (.iload_n 2, 1) := by decide +kernel
theorem dX9_taken_77 : decode cX9_taken 77 = .ok (.if_icmp .ne 16, 3) := by decide +kernel
theorem dX9_taken_80 : decode cX9_taken 80 = .ok (.aload_n 0, 1) := by decide +kernel
theorem dX9_taken_81 : decode cX9_taken 81 = .ok (.aload_n 0, 1) := by decide +kernel
theorem dX9_taken_82 : decode cX9_taken 82 = .ok (.getfield 88, 3) := by decide +kernel
theorem dX9_taken_85 : decode cX9_taken 85 = .ok (.iload_n 1, 1) := by decide +kernel
theorem dX9_taken_86 : decode cX9_taken 86 = .ok (.iaload, 1) := by decide +kernel
theorem dX9_taken_87 : decode cX9_taken 87 = .ok (.invokevirtual 438, 3) := by decide +kernel
theorem dX9_taken_90 : decode cX9_taken 90 = .ok (.goto 5, 3) := by decide +kernel
theorem dX9_taken_93 : decode cX9_taken 93 = .ok (.bipush (-12), 2) := by decide +kernel
theorem dX9_taken_95 : decode cX9_taken 95 = .ok (.ireturn, 1) := by decide +kernel
def fX9_taken_75 (N : Nat)  (x1 : Int32) (x2 : Int32) (x3 : Int32) (v_bodyKind : List Int32) (v_shelf : List Int32) : Option (Int32) :=
    if x3 = x2 then
    (mm_ck (mm_inb x1 v_shelf.length) (mm_bd1 (fX9_kindOf N (mm_ig v_shelf x1) v_bodyKind) (fun (r_20 : Int32) =>
    some (r_20))))
    else (some ((-12 : Int32)))

set_option maxHeartbeats 4000000 in
set_option maxRecDepth 100000 in
theorem tX9_taken_75 {p : Program} {l : Launch} {e : Env} {s : State} {m : MethodId} {args : Array Value} {below : List Frame} {meth : Method} {c : Code} {D : va_G} {cI cL cS cH : ClassId} {A : Nat → Prop} {d : Nat} {a : Nat → Nat} (hd : 3 ≤ d) (C0 : mm_Cx p s m args meth c RX9 cX9_taken 4 (some .int) D (mm_T cI cL cS cH) A) (hA : ∀ q, s.heap.size ≤ q → A q) {v_keptMany : Int32} {v_done : Int32} {v_rowsOf : Int32} {v_columnsOf : Int32} {v_folded : Int32} {v_wronged : Int32} {v_tapeMany : Int32} {v_textMany : Int32} {v_base : Int32} {v_at : Int32} {v_ends : Int32} {v_fault : Int32} {v_opened : Int32} {v_bentMany : Int32} {v_bentWrong : Int32} {v_moreWorn : Int32} {v_planned : Int32} {v_allWrong : Int32} {v_allWorn : Int32} {v_z : Int32} {v_wishedField : Int32} {v_isFound : Bool} {v_bestWrong : Int32} {v_bestWorn : Int32} {v_bestMany : Int32} {v_soughtBy : Int32} {v_sought : Int32} {v_soughtAt : Int32} {v_foundMany : Int32} {v_foundOrder : Int32} {v_isKept : Bool} {v_imageRows : Int32} {v_imageColumns : Int32} {v_imageFolded : Int32} {v_imageWronged : Int32} {v_bodies : Int32} {v_ran : Int32} {v_ownKind : Int32} {v_ownNumber : Int32} {v_limit : List Int32} {v_changeWas : List Int32} {v_changeIs : List Int32} {v_shapeRows : List Int32} {v_shapeColumns : List Int32} {v_row : List Int32} {v_column : List Int32} {v_below : List Int32} {v_face : List Int32} {v_worn : List Int32} {v_lastBend : List Int32} {v_tape : List Int32} {v_text : List Int32} {v_names : List Int32} {v_bends : List Int32} {v_high : List Int32} {v_to : List Int32} {v_pileSize : List Int32} {v_planLine : List Int32} {v_planWay : List Int32} {v_way1 : List Int32} {v_bestWay : List Int32} {v_order1 : List Int32} {v_placeIn : List Int32} {v_trace : List Int32} {v_many : List Int32} {v_items : List Int64} {v_carried : List Int64} {r : Int32} (N : Nat)  : ∀ (x1 : Int32) (x2 : Int32) (x3 : Int32) (v_bodyKind : List Int32) (v_shelf : List Int32) (H : Heap) (locs : List Loc) (ls : Array Slot), fX9_taken_75 N x1 x2 x3 v_bodyKind v_shelf = some r → va_P D mm_cl (wd_X9 cI cL cS cH a v_keptMany v_done v_rowsOf v_columnsOf v_folded v_wronged v_tapeMany v_textMany v_base v_at v_ends v_fault v_opened v_bentMany v_bentWrong v_moreWorn v_planned v_allWrong v_allWorn v_z v_wishedField v_isFound v_bestWrong v_bestWorn v_bestMany v_soughtBy v_sought v_soughtAt v_foundMany v_foundOrder v_isKept v_imageRows v_imageColumns v_imageFolded v_imageWronged v_bodies v_ran v_ownKind v_ownNumber v_limit v_changeWas v_changeIs v_shapeRows v_shapeColumns v_row v_column v_below v_face v_worn v_lastBend v_tape v_text v_names v_bends v_high v_to v_pileSize v_planLine v_planWay v_way1 v_bestWay v_order1 v_placeIn v_bodyKind v_trace v_shelf v_many v_items v_carried) H → va_D A (wd_X9 cI cL cS cH a v_keptMany v_done v_rowsOf v_columnsOf v_folded v_wronged v_tapeMany v_textMany v_base v_at v_ends v_fault v_opened v_bentMany v_bentWrong v_moreWorn v_planned v_allWrong v_allWorn v_z v_wishedField v_isFound v_bestWrong v_bestWorn v_bestMany v_soughtBy v_sought v_soughtAt v_foundMany v_foundOrder v_isKept v_imageRows v_imageColumns v_imageFolded v_imageWronged v_bodies v_ran v_ownKind v_ownNumber v_limit v_changeWas v_changeIs v_shapeRows v_shapeColumns v_row v_column v_below v_face v_worn v_lastBend v_tape v_text v_names v_bends v_high v_to v_pileSize v_planLine v_planWay v_way1 v_bestWay v_order1 v_placeIn v_bodyKind v_trace v_shelf v_many v_items v_carried) → va_S A s.heap H locs → lv_has ls 4 [(0, .ref (a 0)), (1, .int x1), (2, .int x2), (3, .int x3)] → W p l e (mm_rr d) s m args below meth c H locs 0 0 (mm_Z below D A (wd_X9 cI cL cS cH a v_keptMany v_done v_rowsOf v_columnsOf v_folded v_wronged v_tapeMany v_textMany v_base v_at v_ends v_fault v_opened v_bentMany v_bentWrong v_moreWorn v_planned v_allWrong v_allWorn v_z v_wishedField v_isFound v_bestWrong v_bestWorn v_bestMany v_soughtBy v_sought v_soughtAt v_foundMany v_foundOrder v_isKept v_imageRows v_imageColumns v_imageFolded v_imageWronged v_bodies v_ran v_ownKind v_ownNumber v_limit v_changeWas v_changeIs v_shapeRows v_shapeColumns v_row v_column v_below v_face v_worn v_lastBend v_tape v_text v_names v_bends v_high v_to v_pileSize v_planLine v_planWay v_way1 v_bestWay v_order1 v_placeIn v_bodyKind v_trace v_shelf v_many v_items v_carried) (some (.int r)) args s) (F0 m 75 ls []) := by
  obtain ⟨hx, hb, hml, hown, hts, hr, hlocks, hK, hSt⟩ := id C0
  intro x1 x2 x3 v_bodyKind v_shelf H locs ls hf hP hD hS hl
  unfold fX9_taken_75 at hf
  refine lv_iload_n hx hb dX9_taken_75 rfl (lv_at hl 3 rfl) ?_
  refine lv_iload_n hx hb dX9_taken_76 rfl (lv_at hl 2 rfl) ?_
  refine lv_icmp_ne (tgt := 93) hx hb dX9_taken_77 (by decide) (fun c_18 => ?_) (fun c_18 => ?_)
  · have hf := mm_in hf c_18
    refine lv_bipush (v := -12) hx hb dX9_taken_93 (by decide) ?_
    obtain rfl := mm_inj1 hf
    exact mm_iret C0 hP hD hS dX9_taken_95
  · have hf := mm_ip hf c_18
    refine lv_aload_n hx hb dX9_taken_80 rfl (lv_at hl 0 rfl) ?_
    refine lv_aload_n hx hb dX9_taken_81 rfl (lv_at hl 0 rfl) ?_
    refine mm_get C0 hP iw_X9 0 rfl rfl 65 (by decide) fl_X9_88 rfl dX9_taken_82 ?_
    refine lv_iload_n hx hb dX9_taken_85 rfl (lv_at hl 1 rfl) ?_
    obtain ⟨h_19, hf⟩ := mm_cks hf
    refine mm_iald C0 hP 27 rfl h_19 dX9_taken_86 ?_
    obtain ⟨r_20, hc_21, hf⟩ := mm_bd1s hf
    refine mm_callVF (q0 := 0) (ci := 9) (rest := []) C0 lk_X9_438 (ctX9_kindOf (a := a) (d := d - 1) (by omega) hc_21) (by omega) rfl hl.1 rfl (mm_cat rfl) dX9_taken_87 hP hD hA hS rfl rfl (fun H locs hP hD hS => ?_)
    refine W.eq (g2 := F0 m 90 ls [.int r_20]) rfl ?_
    refine lv_goto (tgt := 95) hx hb dX9_taken_90 (by decide) ?_
    obtain rfl := mm_inj1 hf
    exact mm_iret C0 hP hD hS dX9_taken_95

def fX9_taken_58 (N : Nat)  : Nat → Int32 → Int32 → Int32 → List Int32 → List Int32 → Option (Int32)
  | 0 => fun _ _ _ _ _ => none
  | n + 1 => fun x1 x2 x3 v_bodyKind v_shelf =>
    if x3 = x2 then
    (fX9_taken_75 N x1 x2 x3 v_bodyKind v_shelf)
    else (if x3 ≤ 0 then
    (fX9_taken_75 N x1 x2 x3 v_bodyKind v_shelf)
    else (mm_bd1 (fX9_above N x3) (fun (r_16 : Int32) =>
    fX9_taken_58 N n x1 x2 r_16 v_bodyKind v_shelf)))

set_option maxHeartbeats 4000000 in
set_option maxRecDepth 100000 in
theorem tX9_taken_58 {p : Program} {l : Launch} {e : Env} {s : State} {m : MethodId} {args : Array Value} {below : List Frame} {meth : Method} {c : Code} {D : va_G} {cI cL cS cH : ClassId} {A : Nat → Prop} {d : Nat} {a : Nat → Nat} (hd : 3 ≤ d) (C0 : mm_Cx p s m args meth c RX9 cX9_taken 4 (some .int) D (mm_T cI cL cS cH) A) (hA : ∀ q, s.heap.size ≤ q → A q) {v_keptMany : Int32} {v_done : Int32} {v_rowsOf : Int32} {v_columnsOf : Int32} {v_folded : Int32} {v_wronged : Int32} {v_tapeMany : Int32} {v_textMany : Int32} {v_base : Int32} {v_at : Int32} {v_ends : Int32} {v_fault : Int32} {v_opened : Int32} {v_bentMany : Int32} {v_bentWrong : Int32} {v_moreWorn : Int32} {v_planned : Int32} {v_allWrong : Int32} {v_allWorn : Int32} {v_z : Int32} {v_wishedField : Int32} {v_isFound : Bool} {v_bestWrong : Int32} {v_bestWorn : Int32} {v_bestMany : Int32} {v_soughtBy : Int32} {v_sought : Int32} {v_soughtAt : Int32} {v_foundMany : Int32} {v_foundOrder : Int32} {v_isKept : Bool} {v_imageRows : Int32} {v_imageColumns : Int32} {v_imageFolded : Int32} {v_imageWronged : Int32} {v_bodies : Int32} {v_ran : Int32} {v_ownKind : Int32} {v_ownNumber : Int32} {v_limit : List Int32} {v_changeWas : List Int32} {v_changeIs : List Int32} {v_shapeRows : List Int32} {v_shapeColumns : List Int32} {v_row : List Int32} {v_column : List Int32} {v_below : List Int32} {v_face : List Int32} {v_worn : List Int32} {v_lastBend : List Int32} {v_tape : List Int32} {v_text : List Int32} {v_names : List Int32} {v_bends : List Int32} {v_high : List Int32} {v_to : List Int32} {v_pileSize : List Int32} {v_planLine : List Int32} {v_planWay : List Int32} {v_way1 : List Int32} {v_bestWay : List Int32} {v_order1 : List Int32} {v_placeIn : List Int32} {v_trace : List Int32} {v_many : List Int32} {v_items : List Int64} {v_carried : List Int64} {r : Int32} (N : Nat)  : ∀ (n : Nat), ∀ (x1 : Int32) (x2 : Int32) (x3 : Int32) (v_bodyKind : List Int32) (v_shelf : List Int32) (H : Heap) (locs : List Loc) (ls : Array Slot), fX9_taken_58 N n x1 x2 x3 v_bodyKind v_shelf = some r → va_P D mm_cl (wd_X9 cI cL cS cH a v_keptMany v_done v_rowsOf v_columnsOf v_folded v_wronged v_tapeMany v_textMany v_base v_at v_ends v_fault v_opened v_bentMany v_bentWrong v_moreWorn v_planned v_allWrong v_allWorn v_z v_wishedField v_isFound v_bestWrong v_bestWorn v_bestMany v_soughtBy v_sought v_soughtAt v_foundMany v_foundOrder v_isKept v_imageRows v_imageColumns v_imageFolded v_imageWronged v_bodies v_ran v_ownKind v_ownNumber v_limit v_changeWas v_changeIs v_shapeRows v_shapeColumns v_row v_column v_below v_face v_worn v_lastBend v_tape v_text v_names v_bends v_high v_to v_pileSize v_planLine v_planWay v_way1 v_bestWay v_order1 v_placeIn v_bodyKind v_trace v_shelf v_many v_items v_carried) H → va_D A (wd_X9 cI cL cS cH a v_keptMany v_done v_rowsOf v_columnsOf v_folded v_wronged v_tapeMany v_textMany v_base v_at v_ends v_fault v_opened v_bentMany v_bentWrong v_moreWorn v_planned v_allWrong v_allWorn v_z v_wishedField v_isFound v_bestWrong v_bestWorn v_bestMany v_soughtBy v_sought v_soughtAt v_foundMany v_foundOrder v_isKept v_imageRows v_imageColumns v_imageFolded v_imageWronged v_bodies v_ran v_ownKind v_ownNumber v_limit v_changeWas v_changeIs v_shapeRows v_shapeColumns v_row v_column v_below v_face v_worn v_lastBend v_tape v_text v_names v_bends v_high v_to v_pileSize v_planLine v_planWay v_way1 v_bestWay v_order1 v_placeIn v_bodyKind v_trace v_shelf v_many v_items v_carried) → va_S A s.heap H locs → lv_has ls 4 [(0, .ref (a 0)), (1, .int x1), (2, .int x2), (3, .int x3)] → W p l e (mm_rr d) s m args below meth c H locs 0 0 (mm_Z below D A (wd_X9 cI cL cS cH a v_keptMany v_done v_rowsOf v_columnsOf v_folded v_wronged v_tapeMany v_textMany v_base v_at v_ends v_fault v_opened v_bentMany v_bentWrong v_moreWorn v_planned v_allWrong v_allWorn v_z v_wishedField v_isFound v_bestWrong v_bestWorn v_bestMany v_soughtBy v_sought v_soughtAt v_foundMany v_foundOrder v_isKept v_imageRows v_imageColumns v_imageFolded v_imageWronged v_bodies v_ran v_ownKind v_ownNumber v_limit v_changeWas v_changeIs v_shapeRows v_shapeColumns v_row v_column v_below v_face v_worn v_lastBend v_tape v_text v_names v_bends v_high v_to v_pileSize v_planLine v_planWay v_way1 v_bestWay v_order1 v_placeIn v_bodyKind v_trace v_shelf v_many v_items v_carried) (some (.int r)) args s) (F0 m 58 ls []) := by
  obtain ⟨hx, hb, hml, hown, hts, hr, hlocks, hK, hSt⟩ := id C0
  intro n
  induction n with
  | zero =>
    intro x1 x2 x3 v_bodyKind v_shelf H locs ls hf
    cases (show none = some _ from hf)
  | succ n ih =>
    intro x1 x2 x3 v_bodyKind v_shelf H locs ls hf hP hD hS hl
    unfold fX9_taken_58 at hf
    refine lv_iload_n hx hb dX9_taken_58 rfl (lv_at hl 3 rfl) ?_
    refine lv_iload_n hx hb dX9_taken_59 rfl (lv_at hl 2 rfl) ?_
    refine lv_icmp_eq (tgt := 75) hx hb dX9_taken_60 (by decide) (fun c_14 => ?_) (fun c_14 => ?_)
    · have hf := mm_ip hf c_14
      exact tX9_taken_75 hd C0 hA N  _ _ _ _ _ H locs ls hf hP hD hS (lv_sub hl [0, 1, 2, 3] rfl)
    · have hf := mm_in hf c_14
      refine lv_iload_n hx hb dX9_taken_63 rfl (lv_at hl 3 rfl) ?_
      refine lv_if_le (tgt := 75) hx hb dX9_taken_64 (by decide) (fun c_15 => ?_) (fun c_15 => ?_)
      · have hf := mm_ip hf c_15
        exact tX9_taken_75 hd C0 hA N  _ _ _ _ _ H locs ls hf hP hD hS (lv_sub hl [0, 1, 2, 3] rfl)
      · have hf := mm_in hf c_15
        refine lv_iload_n hx hb dX9_taken_67 rfl (lv_at hl 3 rfl) ?_
        obtain ⟨r_16, hc_17, hf⟩ := mm_bd1s hf
        refine mm_callS0 (rest := []) C0 lk_X9_441 (ctX9_above (d := d - 1) (by omega) hc_17) (by omega) rfl hl.1 rfl (mm_cat rfl) dX9_taken_68 hP hD hA hS (fun H locs hP hS => ?_)
        refine W.eq (g2 := F0 m 71 ls [.int r_16]) rfl ?_
        refine lv_istore_n (lv' := [(3, .int r_16), (0, .ref (a 0)), (1, .int x1), (2, .int x2)]) hx hb dX9_taken_71 rfl hl (by decide) rfl (fun ls hl => ?_)
        refine lv_goto (tgt := 58) hx hb dX9_taken_72 (by decide) ?_
        exact ih _ _ _ _ _ H locs ls hf hP hD hS (lv_sub hl [1, 2, 3, 0] rfl)

def fX9_taken (N : Nat) (x1 : Int32) (x2 : Int32) (v_bodyKind : List Int32) (v_shelf : List Int32) : Option (Int32) :=
    mm_bd1 (fX9_isShelf N x1) (fun (r_1 : Bool) =>
    if r_1 = false then
    (some ((-1 : Int32)))
    else (mm_bd1 (fX9_within N ((x2).toInt64) (0 : Int64) (7 : Int64)) (fun (r_4 : Bool) =>
    if r_4 = false then
    (some ((-1 : Int32)))
    else (mm_ck (mm_inb x1 v_shelf.length) (if 0 ≤ (mm_ig v_shelf x1) then
    (mm_ck (mm_inb x1 v_shelf.length) (if (mm_ig v_shelf x1) < (50 : Int32) then
    (mm_ck (mm_inb x1 v_shelf.length) (mm_bd1 (fX9_kindOf N (mm_ig v_shelf x1) v_bodyKind) (fun (r_12 : Int32) =>
    fX9_taken_58 N N x1 x2 r_12 v_bodyKind v_shelf)))
    else (some ((-12 : Int32)))))
    else (some ((-11 : Int32))))))))

set_option maxHeartbeats 4000000 in
set_option maxRecDepth 100000 in
theorem ctX9_taken {l : Launch} {D : va_G} {cI cL cS cH : ClassId} {a : Nat → Nat} {x1 : Int32} {x2 : Int32} {v_keptMany : Int32} {v_done : Int32} {v_rowsOf : Int32} {v_columnsOf : Int32} {v_folded : Int32} {v_wronged : Int32} {v_tapeMany : Int32} {v_textMany : Int32} {v_base : Int32} {v_at : Int32} {v_ends : Int32} {v_fault : Int32} {v_opened : Int32} {v_bentMany : Int32} {v_bentWrong : Int32} {v_moreWorn : Int32} {v_planned : Int32} {v_allWrong : Int32} {v_allWorn : Int32} {v_z : Int32} {v_wishedField : Int32} {v_isFound : Bool} {v_bestWrong : Int32} {v_bestWorn : Int32} {v_bestMany : Int32} {v_soughtBy : Int32} {v_sought : Int32} {v_soughtAt : Int32} {v_foundMany : Int32} {v_foundOrder : Int32} {v_isKept : Bool} {v_imageRows : Int32} {v_imageColumns : Int32} {v_imageFolded : Int32} {v_imageWronged : Int32} {v_bodies : Int32} {v_ran : Int32} {v_ownKind : Int32} {v_ownNumber : Int32} {v_limit : List Int32} {v_changeWas : List Int32} {v_changeIs : List Int32} {v_shapeRows : List Int32} {v_shapeColumns : List Int32} {v_row : List Int32} {v_column : List Int32} {v_below : List Int32} {v_face : List Int32} {v_worn : List Int32} {v_lastBend : List Int32} {v_tape : List Int32} {v_text : List Int32} {v_names : List Int32} {v_bends : List Int32} {v_high : List Int32} {v_to : List Int32} {v_pileSize : List Int32} {v_planLine : List Int32} {v_planWay : List Int32} {v_way1 : List Int32} {v_bestWay : List Int32} {v_order1 : List Int32} {v_placeIn : List Int32} {v_bodyKind : List Int32} {v_trace : List Int32} {v_shelf : List Int32} {v_many : List Int32} {v_items : List Int64} {v_carried : List Int64} {r : Int32} {N d : Nat} (hd : 3 ≤ d) (hf : fX9_taken N x1 x2 v_bodyKind v_shelf = some r) : mm_Ct l yX9_taken cX9_taken 4 (some .int) d D (mm_T cI cL cS cH) [.ref (a 0), .int x1, .int x2] (wd_X9 cI cL cS cH a v_keptMany v_done v_rowsOf v_columnsOf v_folded v_wronged v_tapeMany v_textMany v_base v_at v_ends v_fault v_opened v_bentMany v_bentWrong v_moreWorn v_planned v_allWrong v_allWorn v_z v_wishedField v_isFound v_bestWrong v_bestWorn v_bestMany v_soughtBy v_sought v_soughtAt v_foundMany v_foundOrder v_isKept v_imageRows v_imageColumns v_imageFolded v_imageWronged v_bodies v_ran v_ownKind v_ownNumber v_limit v_changeWas v_changeIs v_shapeRows v_shapeColumns v_row v_column v_below v_face v_worn v_lastBend v_tape v_text v_names v_bends v_high v_to v_pileSize v_planLine v_planWay v_way1 v_bestWay v_order1 v_placeIn v_bodyKind v_trace v_shelf v_many v_items v_carried) (wd_X9 cI cL cS cH a v_keptMany v_done v_rowsOf v_columnsOf v_folded v_wronged v_tapeMany v_textMany v_base v_at v_ends v_fault v_opened v_bentMany v_bentWrong v_moreWorn v_planned v_allWrong v_allWorn v_z v_wishedField v_isFound v_bestWrong v_bestWorn v_bestMany v_soughtBy v_sought v_soughtAt v_foundMany v_foundOrder v_isKept v_imageRows v_imageColumns v_imageFolded v_imageWronged v_bodies v_ran v_ownKind v_ownNumber v_limit v_changeWas v_changeIs v_shapeRows v_shapeColumns v_row v_column v_below v_face v_worn v_lastBend v_tape v_text v_names v_bends v_high v_to v_pileSize v_planLine v_planWay v_way1 v_bestWay v_order1 v_placeIn v_bodyKind v_trace v_shelf v_many v_items v_carried) (some (.int r)) := by
  refine mm_of (by decide) (Nat.le_of_ble_eq_true rfl) ?_
  intro p e s m args below meth c A H locs ls C0 hP hD hA hS hl
  have C0 : mm_Cx p s m args meth c RX9 cX9_taken 4 (some .int) D (mm_T cI cL cS cH) A := C0
  obtain ⟨hx, hb, hml, hown, hts, hr, hlocks, hK, hSt⟩ := id C0
  have hl : lv_has ls 4 [(0, .ref (a 0)), (1, .int x1), (2, .int x2)] := hl
  unfold fX9_taken at hf
  refine lv_iload_n hx hb dX9_taken_0 rfl (lv_at hl 1 rfl) ?_
  obtain ⟨r_1, hc_2, hf⟩ := mm_bd1s hf
  refine mm_callS0 (rest := []) C0 lk_X9_274 (ctX9_isShelf (d := d - 1) (by omega) hc_2) (by omega) rfl hl.1 rfl (mm_cat rfl) dX9_taken_1 hP hD hA hS (fun H locs hP hS => ?_)
  refine W.eq (g2 := F0 m 4 ls [.int (mm_b r_1)]) rfl ?_
  refine lv_if_eq (tgt := 19) hx hb dX9_taken_4 (by decide) (fun c_3 => ?_) (fun c_3 => ?_)
  · have hf := mm_ip hf (mm_b0 c_3)
    refine lv_iconst (v := -1) hx hb dX9_taken_19 (by decide) ?_
    obtain rfl := mm_inj1 hf
    exact mm_iret C0 hP hD hS dX9_taken_20
  · have hf := mm_in hf (mm_b1 c_3)
    refine lv_iload_n hx hb dX9_taken_7 rfl (lv_at hl 2 rfl) ?_
    refine lv_i2l hx hb dX9_taken_8 rfl ?_
    refine lv_lconst (v := 0) hx hb dX9_taken_9 (by decide) ?_
    refine lv_ldc2 hx hb hown (hts _ kc_X9_238) dX9_taken_10 ?_
    obtain ⟨r_4, hc_5, hf⟩ := mm_bd1s hf
    refine mm_callS0 (rest := []) C0 lk_X9_111 (ctX9_within (d := d - 1) (by omega) hc_5) (by omega) rfl hl.1 rfl (mm_cat rfl) dX9_taken_13 hP hD hA hS (fun H locs hP hS => ?_)
    refine W.eq (g2 := F0 m 16 ls [.int (mm_b r_4)]) rfl ?_
    refine lv_if_ne (tgt := 21) hx hb dX9_taken_16 (by decide) (fun c_6 => ?_) (fun c_6 => ?_)
    · have hf := mm_in hf (mm_b1 c_6)
      refine lv_aload_n hx hb dX9_taken_21 rfl (lv_at hl 0 rfl) ?_
      refine mm_get C0 hP iw_X9 0 rfl rfl 65 (by decide) fl_X9_88 rfl dX9_taken_22 ?_
      refine lv_iload_n hx hb dX9_taken_25 rfl (lv_at hl 1 rfl) ?_
      obtain ⟨h_7, hf⟩ := mm_cks hf
      refine mm_iald C0 hP 27 rfl h_7 dX9_taken_26 ?_
      refine lv_if_ge (tgt := 33) hx hb dX9_taken_27 (by decide) (fun c_8 => ?_) (fun c_8 => ?_)
      · have hf := mm_ip hf c_8
        refine lv_aload_n hx hb dX9_taken_33 rfl (lv_at hl 0 rfl) ?_
        refine mm_get C0 hP iw_X9 0 rfl rfl 65 (by decide) fl_X9_88 rfl dX9_taken_34 ?_
        refine lv_iload_n hx hb dX9_taken_37 rfl (lv_at hl 1 rfl) ?_
        obtain ⟨h_9, hf⟩ := mm_cks hf
        refine mm_iald C0 hP 27 rfl h_9 dX9_taken_38 ?_
        refine lv_bipush (v := 50) hx hb dX9_taken_39 (by decide) ?_
        refine lv_icmp_lt (tgt := 47) hx hb dX9_taken_41 (by decide) (fun c_10 => ?_) (fun c_10 => ?_)
        · have hf := mm_ip hf c_10
          refine lv_aload_n hx hb dX9_taken_47 rfl (lv_at hl 0 rfl) ?_
          refine lv_aload_n hx hb dX9_taken_48 rfl (lv_at hl 0 rfl) ?_
          refine mm_get C0 hP iw_X9 0 rfl rfl 65 (by decide) fl_X9_88 rfl dX9_taken_49 ?_
          refine lv_iload_n hx hb dX9_taken_52 rfl (lv_at hl 1 rfl) ?_
          obtain ⟨h_11, hf⟩ := mm_cks hf
          refine mm_iald C0 hP 27 rfl h_11 dX9_taken_53 ?_
          obtain ⟨r_12, hc_13, hf⟩ := mm_bd1s hf
          refine mm_callVF (q0 := 0) (ci := 9) (rest := []) C0 lk_X9_438 (ctX9_kindOf (a := a) (d := d - 1) (by omega) hc_13) (by omega) rfl hl.1 rfl (mm_cat rfl) dX9_taken_54 hP hD hA hS rfl rfl (fun H locs hP hD hS => ?_)
          refine W.eq (g2 := F0 m 57 ls [.int r_12]) rfl ?_
          refine lv_istore_n (lv' := [(3, .int r_12), (0, .ref (a 0)), (1, .int x1), (2, .int x2)]) hx hb dX9_taken_57 rfl hl (by decide) rfl (fun ls hl => ?_)
          exact tX9_taken_58 hd C0 hA N  N _ _ _ _ _ H locs ls hf hP hD hS (lv_sub hl [1, 2, 3, 0] rfl)
        · have hf := mm_in hf c_10
          refine lv_bipush (v := -12) hx hb dX9_taken_44 (by decide) ?_
          obtain rfl := mm_inj1 hf
          exact mm_iret C0 hP hD hS dX9_taken_46
      · have hf := mm_in hf c_8
        refine lv_bipush (v := -11) hx hb dX9_taken_30 (by decide) ?_
        obtain rfl := mm_inj1 hf
        exact mm_iret C0 hP hD hS dX9_taken_32
    · have hf := mm_ip hf (mm_b0 c_6)
      refine lv_iconst (v := -1) hx hb dX9_taken_19 (by decide) ?_
      obtain rfl := mm_inj1 hf
      exact mm_iret C0 hP hD hS dX9_taken_20

theorem dX9_count_0 : decode cX9_count 0 = .ok (.iload_n 1, 1) := by decide +kernel
theorem dX9_count_1 : decode cX9_count 1 = .ok (.tableswitch 69 0 5 #[39, 44, 49, 54, 59, 64], 39) := by decide +kernel
theorem dX9_count_40 : decode cX9_count 40 = .ok (.aload_n 0, 1) := by decide +kernel
theorem dX9_count_41 : decode cX9_count 41 = .ok (.invokevirtual 127, 3) := by decide +kernel
theorem dX9_count_44 : decode cX9_count 44 = .ok (.ireturn, 1) := by decide +kernel
theorem dX9_count_45 : decode cX9_count 45 = .ok (.aload_n 0, 1) := by decide +kernel
theorem dX9_count_46 : decode cX9_count 46 = .ok (.getfield 271, 3) := by decide +kernel
theorem dX9_count_49 : decode cX9_count 49 = .ok (.ireturn, 1) := by decide +kernel
theorem dX9_count_50 : decode cX9_count 50 = .ok (.aload_n 0, 1) := by decide +kernel
theorem dX9_count_51 : decode cX9_count 51 = .ok (.getfield 147, 3) := by decide +kernel
theorem dX9_count_54 : decode cX9_count 54 = .ok (.ireturn, 1) := by decide +kernel
theorem dX9_count_55 : decode cX9_count 55 = .ok (.aload_n 0, 1) := by decide +kernel
theorem dX9_count_56 : decode cX9_count 56 = .ok (.getfield 115, 3) := by decide +kernel
theorem dX9_count_59 : decode cX9_count 59 = .ok (.ireturn, 1) := by decide +kernel
theorem dX9_count_60 : decode cX9_count 60 = .ok (.aload_n 0, 1) := by decide +kernel
theorem dX9_count_61 : decode cX9_count 61 = .ok (.getfield 395, 3) := by decide +kernel
theorem dX9_count_64 : decode cX9_count 64 = .ok (.ireturn, 1) := by decide +kernel
theorem dX9_count_65 : decode cX9_count 65 = .ok (.aload_n 0, 1) := by decide +kernel
theorem dX9_count_66 : decode cX9_count 66 = .ok (.getfield 398, 3) := by decide +kernel
theorem dX9_count_69 : decode cX9_count 69 = .ok (.ireturn, 1) := by decide +kernel
theorem dX9_count_70 : decode cX9_count 70 = .ok (.iconst (-1), 1) := by decide +kernel
theorem dX9_count_71 : decode cX9_count 71 = .ok (.ireturn, 1) := by decide +kernel
def fX9_count (N : Nat) (x1 : Int32) (v_done : Int32) (v_rowsOf : Int32) (v_columnsOf : Int32) (v_tapeMany : Int32) (v_planned : Int32) (v_bodies : Int32) (v_ran : Int32) : Option (Int32) :=
    if x1 = (0 : Int32) then
    (mm_bd1 (fX9_fields N v_rowsOf v_columnsOf) (fun (r_2 : Int32) =>
    some (r_2)))
    else (if x1 = (1 : Int32) then
    (some (v_planned))
    else (if x1 = (2 : Int32) then
    (some (v_tapeMany))
    else (if x1 = (3 : Int32) then
    (some (v_done))
    else (if x1 = (4 : Int32) then
    (some (v_bodies))
    else (if x1 = (5 : Int32) then
    (some (v_ran))
    else (some ((-1 : Int32))))))))

set_option maxHeartbeats 4000000 in
set_option maxRecDepth 100000 in
theorem ctX9_count {l : Launch} {D : va_G} {cI cL cS cH : ClassId} {a : Nat → Nat} {x1 : Int32} {v_keptMany : Int32} {v_done : Int32} {v_rowsOf : Int32} {v_columnsOf : Int32} {v_folded : Int32} {v_wronged : Int32} {v_tapeMany : Int32} {v_textMany : Int32} {v_base : Int32} {v_at : Int32} {v_ends : Int32} {v_fault : Int32} {v_opened : Int32} {v_bentMany : Int32} {v_bentWrong : Int32} {v_moreWorn : Int32} {v_planned : Int32} {v_allWrong : Int32} {v_allWorn : Int32} {v_z : Int32} {v_wishedField : Int32} {v_isFound : Bool} {v_bestWrong : Int32} {v_bestWorn : Int32} {v_bestMany : Int32} {v_soughtBy : Int32} {v_sought : Int32} {v_soughtAt : Int32} {v_foundMany : Int32} {v_foundOrder : Int32} {v_isKept : Bool} {v_imageRows : Int32} {v_imageColumns : Int32} {v_imageFolded : Int32} {v_imageWronged : Int32} {v_bodies : Int32} {v_ran : Int32} {v_ownKind : Int32} {v_ownNumber : Int32} {v_limit : List Int32} {v_changeWas : List Int32} {v_changeIs : List Int32} {v_shapeRows : List Int32} {v_shapeColumns : List Int32} {v_row : List Int32} {v_column : List Int32} {v_below : List Int32} {v_face : List Int32} {v_worn : List Int32} {v_lastBend : List Int32} {v_tape : List Int32} {v_text : List Int32} {v_names : List Int32} {v_bends : List Int32} {v_high : List Int32} {v_to : List Int32} {v_pileSize : List Int32} {v_planLine : List Int32} {v_planWay : List Int32} {v_way1 : List Int32} {v_bestWay : List Int32} {v_order1 : List Int32} {v_placeIn : List Int32} {v_bodyKind : List Int32} {v_trace : List Int32} {v_shelf : List Int32} {v_many : List Int32} {v_items : List Int64} {v_carried : List Int64} {r : Int32} {N d : Nat} (hd : 2 ≤ d) (hf : fX9_count N x1 v_done v_rowsOf v_columnsOf v_tapeMany v_planned v_bodies v_ran = some r) : mm_Ct l yX9_count cX9_count 2 (some .int) d D (mm_T cI cL cS cH) [.ref (a 0), .int x1] (wd_X9 cI cL cS cH a v_keptMany v_done v_rowsOf v_columnsOf v_folded v_wronged v_tapeMany v_textMany v_base v_at v_ends v_fault v_opened v_bentMany v_bentWrong v_moreWorn v_planned v_allWrong v_allWorn v_z v_wishedField v_isFound v_bestWrong v_bestWorn v_bestMany v_soughtBy v_sought v_soughtAt v_foundMany v_foundOrder v_isKept v_imageRows v_imageColumns v_imageFolded v_imageWronged v_bodies v_ran v_ownKind v_ownNumber v_limit v_changeWas v_changeIs v_shapeRows v_shapeColumns v_row v_column v_below v_face v_worn v_lastBend v_tape v_text v_names v_bends v_high v_to v_pileSize v_planLine v_planWay v_way1 v_bestWay v_order1 v_placeIn v_bodyKind v_trace v_shelf v_many v_items v_carried) (wd_X9 cI cL cS cH a v_keptMany v_done v_rowsOf v_columnsOf v_folded v_wronged v_tapeMany v_textMany v_base v_at v_ends v_fault v_opened v_bentMany v_bentWrong v_moreWorn v_planned v_allWrong v_allWorn v_z v_wishedField v_isFound v_bestWrong v_bestWorn v_bestMany v_soughtBy v_sought v_soughtAt v_foundMany v_foundOrder v_isKept v_imageRows v_imageColumns v_imageFolded v_imageWronged v_bodies v_ran v_ownKind v_ownNumber v_limit v_changeWas v_changeIs v_shapeRows v_shapeColumns v_row v_column v_below v_face v_worn v_lastBend v_tape v_text v_names v_bends v_high v_to v_pileSize v_planLine v_planWay v_way1 v_bestWay v_order1 v_placeIn v_bodyKind v_trace v_shelf v_many v_items v_carried) (some (.int r)) := by
  refine mm_of (by decide) (Nat.le_of_ble_eq_true rfl) ?_
  intro p e s m args below meth c A H locs ls C0 hP hD hA hS hl
  have C0 : mm_Cx p s m args meth c RX9 cX9_count 2 (some .int) D (mm_T cI cL cS cH) A := C0
  obtain ⟨hx, hb, hml, hown, hts, hr, hlocks, hK, hSt⟩ := id C0
  have hl : lv_has ls 2 [(0, .ref (a 0)), (1, .int x1)] := hl
  unfold fX9_count at hf
  refine lv_iload_n hx hb dX9_count_0 rfl (lv_at hl 1 rfl) ?_
  by_cases c_1 : x1 = (0 : Int32)
  · have hf := mm_ip hf c_1
    refine lv_tableIn (off := 39) (tgt := 40) hx hb dX9_count_1 (by rw [c_1]; decide) (by rw [c_1]; decide) (by rw [c_1]; first | done | rfl) (by decide) ?_
    refine lv_aload_n hx hb dX9_count_40 rfl (lv_at hl 0 rfl) ?_
    obtain ⟨r_2, hc_3, hf⟩ := mm_bd1s hf
    refine mm_callVF (q0 := 0) (ci := 9) (rest := []) C0 lk_X9_127 (ctX9_fields (a := a) (d := d - 1) (by omega) hc_3) (by omega) rfl hl.1 rfl (mm_cat rfl) dX9_count_41 hP hD hA hS rfl rfl (fun H locs hP hD hS => ?_)
    refine W.eq (g2 := F0 m 44 ls [.int r_2]) rfl ?_
    obtain rfl := mm_inj1 hf
    exact mm_iret C0 hP hD hS dX9_count_44
  · have hf := mm_in hf c_1
    by_cases c_4 : x1 = (1 : Int32)
    · have hf := mm_ip hf c_4
      refine lv_tableIn (off := 44) (tgt := 45) hx hb dX9_count_1 (by rw [c_4]; decide) (by rw [c_4]; decide) (by rw [c_4]; first | done | rfl) (by decide) ?_
      refine lv_aload_n hx hb dX9_count_45 rfl (lv_at hl 0 rfl) ?_
      refine mm_get C0 hP iw_X9 0 rfl rfl 36 (by decide) fl_X9_271 rfl dX9_count_46 ?_
      obtain rfl := mm_inj1 hf
      exact mm_iret C0 hP hD hS dX9_count_49
    · have hf := mm_in hf c_4
      by_cases c_5 : x1 = (2 : Int32)
      · have hf := mm_ip hf c_5
        refine lv_tableIn (off := 49) (tgt := 50) hx hb dX9_count_1 (by rw [c_5]; decide) (by rw [c_5]; decide) (by rw [c_5]; first | done | rfl) (by decide) ?_
        refine lv_aload_n hx hb dX9_count_50 rfl (lv_at hl 0 rfl) ?_
        refine mm_get C0 hP iw_X9 0 rfl rfl 18 (by decide) fl_X9_147 rfl dX9_count_51 ?_
        obtain rfl := mm_inj1 hf
        exact mm_iret C0 hP hD hS dX9_count_54
      · have hf := mm_in hf c_5
        by_cases c_6 : x1 = (3 : Int32)
        · have hf := mm_ip hf c_6
          refine lv_tableIn (off := 54) (tgt := 55) hx hb dX9_count_1 (by rw [c_6]; decide) (by rw [c_6]; decide) (by rw [c_6]; first | done | rfl) (by decide) ?_
          refine lv_aload_n hx hb dX9_count_55 rfl (lv_at hl 0 rfl) ?_
          refine mm_get C0 hP iw_X9 0 rfl rfl 4 (by decide) fl_X9_115 rfl dX9_count_56 ?_
          obtain rfl := mm_inj1 hf
          exact mm_iret C0 hP hD hS dX9_count_59
        · have hf := mm_in hf c_6
          by_cases c_7 : x1 = (4 : Int32)
          · have hf := mm_ip hf c_7
            refine lv_tableIn (off := 59) (tgt := 60) hx hb dX9_count_1 (by rw [c_7]; decide) (by rw [c_7]; decide) (by rw [c_7]; first | done | rfl) (by decide) ?_
            refine lv_aload_n hx hb dX9_count_60 rfl (lv_at hl 0 rfl) ?_
            refine mm_get C0 hP iw_X9 0 rfl rfl 59 (by decide) fl_X9_395 rfl dX9_count_61 ?_
            obtain rfl := mm_inj1 hf
            exact mm_iret C0 hP hD hS dX9_count_64
          · have hf := mm_in hf c_7
            by_cases c_8 : x1 = (5 : Int32)
            · have hf := mm_ip hf c_8
              refine lv_tableIn (off := 64) (tgt := 65) hx hb dX9_count_1 (by rw [c_8]; decide) (by rw [c_8]; decide) (by rw [c_8]; first | done | rfl) (by decide) ?_
              refine lv_aload_n hx hb dX9_count_65 rfl (lv_at hl 0 rfl) ?_
              refine mm_get C0 hP iw_X9 0 rfl rfl 62 (by decide) fl_X9_398 rfl dX9_count_66 ?_
              obtain rfl := mm_inj1 hf
              exact mm_iret C0 hP hD hS dX9_count_69
            · have hf := mm_in hf c_8
              refine lv_tableOut (tgt := 70) hx hb dX9_count_1 (by have nc_1 := lv_neT c_1 (a := 0) (by decide); have nc_4 := lv_neT c_4 (a := 1) (by decide); have nc_5 := lv_neT c_5 (a := 2) (by decide); have nc_6 := lv_neT c_6 (a := 3) (by decide); have nc_7 := lv_neT c_7 (a := 4) (by decide); have nc_8 := lv_neT c_8 (a := 5) (by decide); omega) (by decide) ?_
              refine lv_iconst (v := -1) hx hb dX9_count_70 (by decide) ?_
              obtain rfl := mm_inj1 hf
              exact mm_iret C0 hP hD hS dX9_count_71

