/-! parts: X5_wear, X5_bendAndTurn, X6_holdFolding, J7_fill_d0a16, X6_holdRow, X6_hasPart, X6_lowestBits, X6_store, X7_lay, X7_isWithin, X7_crossing, X7_firstCross, X7_bits, X7_isLaid -/
theorem dX5_wear_0 : decode cX5_wear 0 = .ok (.aload_n 0, 1) := by decide +kernel
theorem dX5_wear_1 : decode cX5_wear 1 = .ok (.getfield 27, 3) := by decide +kernel
theorem dX5_wear_4 : decode cX5_wear 4 = .ok (.iload_n 1, 1) := by decide +kernel
theorem dX5_wear_5 : decode cX5_wear 5 = .ok (.iaload, 1) := by decide +kernel
theorem dX5_wear_6 : decode cX5_wear 6 = .ok (.ifCond .eq 22, 3) := by decide +kernel
theorem dX5_wear_9 : decode cX5_wear 9 = .ok (.aload_n 0, 1) := by decide +kernel
theorem dX5_wear_10 : decode cX5_wear 10 = .ok (.getfield 27, 3) := by decide +kernel
theorem dX5_wear_13 : decode cX5_wear 13 = .ok (.iload_n 1, 1) := by decide +kernel
theorem dX5_wear_14 : decode cX5_wear 14 = .ok (.iaload, 1) := by decide +kernel
theorem dX5_wear_15 : decode cX5_wear 15 = .ok (.aload_n 0, 1) := by decide +kernel
theorem dX5_wear_16 : decode cX5_wear 16 = .ok (.getfield 30, 3) := by decide +kernel
theorem dX5_wear_19 : decode cX5_wear 19 = .ok (.iload_n 1, 1) := by decide +kernel
theorem dX5_wear_20 : decode cX5_wear 20 = .ok (.iaload, 1) := by decide +kernel
theorem dX5_wear_21 : decode cX5_wear 21 = .ok (.if_icmp .eq 7, 3) := by decide +kernel
theorem dX5_wear_24 : decode cX5_wear 24 = .ok (.iconst 1, 1) := by decide +kernel
theorem dX5_wear_25 : decode cX5_wear 25 = .ok (.goto 4, 3) := by decide +kernel
theorem dX5_wear_28 : decode cX5_wear 28 = .ok (.iconst 0, 1) := by decide +kernel
theorem dX5_wear_29 : decode cX5_wear 29 = .ok (.istore 4, 2) := by decide +kernel
theorem dX5_wear_31 : decode cX5_wear 31 = .ok (.aload_n 0, 1) := by decide +kernel
theorem dX5_wear_32 : decode cX5_wear 32 = .ok (.getfield 24, 3) := by decide +kernel
theorem dX5_wear_35 : decode cX5_wear 35 = .ok (.iload_n 1, 1) := by decide +kernel
theorem dX5_wear_36 : decode cX5_wear 36 = .ok (.iaload, 1) := by decide +kernel
theorem dX5_wear_37 : decode cX5_wear 37 = .ok (.istore 5, 2) := by decide +kernel
theorem dX5_wear_39 : decode cX5_wear 39 = .ok (.aload_n 3, 1) := by decide +kernel
theorem dX5_wear_40 : decode cX5_wear 40 = .ok (.iload_n 2, 1) := by decide +kernel
theorem dX5_wear_41 : decode cX5_wear 41 = .ok (.iload 5, 2) := by decide +kernel
theorem dX5_wear_43 : decode cX5_wear 43 = .ok (.iload 4, 2) := by decide +kernel
theorem dX5_wear_45 : decode cX5_wear 45 = .ok (.iload_n 1, 1) := by decide +kernel
theorem dX5_wear_46 : decode cX5_wear 46 = .ok (.iconst 2, 1) := by decide +kernel
theorem dX5_wear_47 : decode cX5_wear 47 = .ok (.irem, 1) := by decide +kernel
theorem dX5_wear_48 : decode cX5_wear 48 = .ok (.iload_n 1, 1) := by decide +kernel
theorem dX5_wear_49 : decode cX5_wear 49 = .ok (.iconst 2, 1) := by decide +kernel
theorem dX5_wear_50 : decode cX5_wear 50 = .ok (.idiv, 1) := by decide +kernel
theorem dX5_wear_51 : decode cX5_wear 51 = .ok (.aload_n 0, 1) := by decide +kernel
theorem dX5_wear_52 : decode cX5_wear 52 = .ok (.getfield 30, 3) := by decide +kernel
theorem dX5_wear_55 : decode cX5_wear 55 = .ok (.iload_n 1, 1) := by decide +kernel
theorem dX5_wear_56 : decode cX5_wear 56 = .ok (.iaload, 1) := by decide +kernel
theorem dX5_wear_57 : decode cX5_wear 57 = .ok (.invokevirtual 150, 3) := by decide +kernel
theorem dX5_wear_60 : decode cX5_wear 60 = .ok (.istore 6, 2) := by decide +kernel
theorem dX5_wear_62 : decode cX5_wear 62 = .ok (.aload_n 0, 1) := by decide +kernel
theorem dX5_wear_63 : decode cX5_wear 63 = .ok (.getfield 24, 3) := by decide +kernel
theorem dX5_wear_66 : decode cX5_wear 66 = .ok (.iload_n 1, 1) := by decide +kernel
theorem dX5_wear_67 : decode cX5_wear 67 = .ok (.bipush 99, 2) := by decide +kernel
theorem dX5_wear_69 : decode cX5_wear 69 = .ok (.iload 5, 2) := by decide +kernel
theorem dX5_wear_71 : decode cX5_wear 71 = .ok (.iload 6, 2) := by decide +kernel
theorem dX5_wear_73 : decode cX5_wear 73 = .ok (.iadd, 1) := by decide +kernel
theorem dX5_wear_74 : decode cX5_wear 74 = .ok (.invokestatic 156, 3) := by decide +kernel
theorem dX5_wear_77 : decode cX5_wear 77 = .ok (.iastore, 1) := by decide +kernel
theorem dX5_wear_78 : decode cX5_wear 78 = .ok (.aload_n 0, 1) := by decide +kernel
theorem dX5_wear_79 : decode cX5_wear 79 = .ok (.getfield 27, 3) := by decide +kernel
theorem dX5_wear_82 : decode cX5_wear 82 = .ok (.iload_n 1, 1) := by decide +kernel
theorem dX5_wear_83 : decode cX5_wear 83 = .ok (.aload_n 0, 1) := by decide +kernel
theorem dX5_wear_84 : decode cX5_wear 84 = .ok (.getfield 30, 3) := by decide +kernel
theorem dX5_wear_87 : decode cX5_wear 87 = .ok (.iload_n 1, 1) := by decide +kernel
theorem dX5_wear_88 : decode cX5_wear 88 = .ok (.iaload, 1) := by decide +kernel
theorem dX5_wear_89 : decode cX5_wear 89 = .ok (.iastore, 1) := by decide +kernel
theorem dX5_wear_90 : decode cX5_wear 90 = .ok (.aload_n 0, 1) := by decide +kernel
theorem dX5_wear_91 : decode cX5_wear 91 = .ok (.dup, 1) := by decide +kernel
theorem dX5_wear_92 : decode cX5_wear 92 = .ok (.getfield 65, 3) := by decide +kernel
theorem dX5_wear_95 : decode cX5_wear 95 = .ok (.aload_n 0, 1) := by decide +kernel
theorem dX5_wear_96 : decode cX5_wear 96 = .ok (.getfield 24, 3) := by decide +kernel
theorem dX5_wear_99 : decode cX5_wear 99 = .ok (.iload_n 1, 1) := by decide +kernel
theorem dX5_wear_100 : decode cX5_wear 100 = .ok (.iaload, 1) := by decide +kernel
theorem dX5_wear_101 : decode cX5_wear 101 = .ok (.iload 5, 2) := by decide +kernel
theorem dX5_wear_103 : decode cX5_wear 103 = .ok (.isub, 1) := by decide +kernel
theorem dX5_wear_104 : decode cX5_wear 104 = .ok (.iadd, 1) := by decide +kernel
theorem dX5_wear_105 : decode cX5_wear 105 = .ok (.putfield 65, 3) := by decide +kernel
theorem dX5_wear_108 : decode cX5_wear 108 = .ok (.aload_n 0, 1) := by decide +kernel
theorem dX5_wear_109 : decode cX5_wear 109 = .ok (.dup, 1) := by decide +kernel
theorem dX5_wear_110 : decode cX5_wear 110 = .ok (.getfield 62, 3) := by decide +kernel
theorem dX5_wear_113 : decode cX5_wear 113 = .ok (.iload 4, 2) := by decide +kernel
theorem dX5_wear_115 : decode cX5_wear 115 = .ok (.iadd, 1) := by decide +kernel
theorem dX5_wear_116 : decode cX5_wear 116 = .ok (.putfield 62, 3) := by decide +kernel
theorem dX5_wear_119 : decode cX5_wear 119 = .ok (.return_, 1) := by decide +kernel
def fX5_wear_29 (N : Nat)  (x1 : Int32) (x2 : Int32) (s0 : Int32) (v_wrong : Int32) (v_more : Int32) (v_worn : List Int32) (v_last : List Int32) (v_bend : List Int32) (p3_stepCount : Int32) (p3_stacked : Int32) (p3_steps : List Int32) (p3_stack : List Int32) : Option (Int32 × Int32 × List Int32 × List Int32 × Int32 × List Int32) :=
    mm_ck (mm_inb x1 v_worn.length) (mm_nm ((mm_ig v_worn x1)) (fun (y_7 : Int32) =>
    mm_ck (mm_nz (2 : Int32)) (mm_ck (mm_nz (2 : Int32)) (mm_ck (mm_inb x1 v_bend.length) (mm_bd3 (fX2_worth N x2 y_7 s0 (mm_rem x1 (2 : Int32)) (x1 / (2 : Int32)) (mm_ig v_bend x1) p3_stepCount p3_stacked p3_steps p3_stack) (fun (r_11 : Int32) (w_12 : Int32) (w_13 : List Int32) =>
    mm_nm ((mm_min (99 : Int32) (y_7 + r_11))) (fun (y_15 : Int32) =>
    mm_ck (mm_inb x1 v_worn.length) (mm_nm (mm_is v_worn x1 y_15) (fun (l_17 : List Int32) =>
    mm_ck (mm_inb x1 v_bend.length) (mm_nm ((mm_ig v_bend x1)) (fun (y_19 : Int32) =>
    mm_ck (mm_inb x1 v_last.length) (mm_nm (mm_is v_last x1 y_19) (fun (l_21 : List Int32) =>
    mm_ck (mm_inb x1 l_17.length) (mm_nm ((v_more + ((mm_ig l_17 x1) - y_7))) (fun (y_23 : Int32) =>
    mm_nm ((v_wrong + s0)) (fun (y_24 : Int32) =>
    some (y_24, y_23, l_17, l_21, w_12, w_13)))))))))))))))))

set_option maxHeartbeats 4000000 in
set_option maxRecDepth 100000 in
theorem tX5_wear_29 {p : Program} {l : Launch} {e : Env} {s : State} {m : MethodId} {args : Array Value} {below : List Frame} {meth : Method} {c : Code} {D : va_G} {cI cL cS cH : ClassId} {A : Nat → Prop} {d : Nat} {a : Nat → Nat} (hd : 3 ≤ d) (C0 : mm_Cx p s m args meth c RX5 cX5_wear 7 none D (mm_T cI cL cS cH) A) (hA : ∀ q, s.heap.size ≤ q → A q) {v_rows : Int32} {v_cols : Int32} {v_high : Int32} {v_wide : Int32} {v_folds : Int32} {v_rowOf : List Int32} {v_colOf : List Int32} {v_below : List Int32} {v_face : List Int32} {v_tall : List Int32} {p3_size : Int32} {p3_draftCount : Int32} {p3_place : Int32} {p3_fault : Int32} {p3_tape : List Int32} {p3_draft : List Int32} {w_wrong : Int32} {w_more : Int32} {w_worn : List Int32} {w_last : List Int32} {wp3_stacked : Int32} {wp3_stack : List Int32} (N : Nat)  : ∀ (x1 : Int32) (x2 : Int32) (s0 : Int32) (v_wrong : Int32) (v_more : Int32) (v_worn : List Int32) (v_last : List Int32) (v_bend : List Int32) (p3_stepCount : Int32) (p3_stacked : Int32) (p3_steps : List Int32) (p3_stack : List Int32) (H : Heap) (locs : List Loc) (ls : Array Slot), fX5_wear_29 N x1 x2 s0 v_wrong v_more v_worn v_last v_bend p3_stepCount p3_stacked p3_steps p3_stack = some (w_wrong, w_more, w_worn, w_last, wp3_stacked, wp3_stack) → va_P D mm_cl (wd_X5 cI cL cS cH a v_rows v_cols v_high v_wide v_folds v_wrong v_more v_rowOf v_colOf v_below v_face v_worn v_last v_bend v_tall ++ wd_X2 cI cL cS cH (fun k => a (k + 9)) p3_size p3_stepCount p3_draftCount p3_place p3_fault p3_stacked p3_tape p3_steps p3_draft p3_stack) H → va_D A (wd_X5 cI cL cS cH a v_rows v_cols v_high v_wide v_folds v_wrong v_more v_rowOf v_colOf v_below v_face v_worn v_last v_bend v_tall ++ wd_X2 cI cL cS cH (fun k => a (k + 9)) p3_size p3_stepCount p3_draftCount p3_place p3_fault p3_stacked p3_tape p3_steps p3_draft p3_stack) → va_S A s.heap H locs → lv_has ls 7 [(0, .ref (a 0)), (1, .int x1), (2, .int x2), (3, .ref (a 9))] → W p l e (mm_rr d) s m args below meth c H locs 0 0 (mm_Z below D A (wd_X5 cI cL cS cH a v_rows v_cols v_high v_wide v_folds w_wrong w_more v_rowOf v_colOf v_below v_face w_worn w_last v_bend v_tall ++ wd_X2 cI cL cS cH (fun k => a (k + 9)) p3_size p3_stepCount p3_draftCount p3_place p3_fault wp3_stacked p3_tape p3_steps p3_draft wp3_stack) none args s) (F0 m 29 ls [.int s0]) := by
  obtain ⟨hx, hb, hml, hown, hts, hr, hlocks, hK, hSt⟩ := id C0
  intro x1 x2 s0 v_wrong v_more v_worn v_last v_bend p3_stepCount p3_stacked p3_steps p3_stack H locs ls hf hP hD hS hl
  unfold fX5_wear_29 at hf
  refine lv_istore (lv' := [(4, .int s0), (0, .ref (a 0)), (1, .int x1), (2, .int x2), (3, .ref (a 9))]) hx hb dX5_wear_29 hl (by decide) rfl (fun ls hl => ?_)
  refine lv_aload_n hx hb dX5_wear_31 rfl (lv_at hl 1 rfl) ?_
  refine mm_get C0 hP iw_X5 0 rfl rfl 11 (by decide) fl_X5_24 rfl dX5_wear_32 ?_
  refine lv_iload_n hx hb dX5_wear_35 rfl (lv_at hl 2 rfl) ?_
  obtain ⟨h_6, hf⟩ := mm_cks hf
  refine mm_iald C0 hP 5 rfl h_6 dX5_wear_36 ?_
  refine lv_topi (fun y_7 ey_7 => ?_)
  have hf := mm_nms hf ey_7
  refine lv_istore (lv' := [(5, .int y_7), (4, .int s0), (0, .ref (a 0)), (1, .int x1), (2, .int x2), (3, .ref (a 9))]) hx hb dX5_wear_37 hl (by decide) rfl (fun ls hl => ?_)
  refine lv_aload_n hx hb dX5_wear_39 rfl (lv_at hl 5 rfl) ?_
  refine lv_iload_n hx hb dX5_wear_40 rfl (lv_at hl 4 rfl) ?_
  refine lv_iload hx hb dX5_wear_41 (lv_at hl 0 rfl) ?_
  refine lv_iload hx hb dX5_wear_43 (lv_at hl 1 rfl) ?_
  refine lv_iload_n hx hb dX5_wear_45 rfl (lv_at hl 3 rfl) ?_
  refine lv_iconst (v := 2) hx hb dX5_wear_46 (by decide) ?_
  obtain ⟨h_8, hf⟩ := mm_cks hf
  refine lv_irem hx hb dX5_wear_47 (mm_nzs h_8) ?_
  refine lv_iload_n hx hb dX5_wear_48 rfl (lv_at hl 3 rfl) ?_
  refine lv_iconst (v := 2) hx hb dX5_wear_49 (by decide) ?_
  obtain ⟨h_9, hf⟩ := mm_cks hf
  refine lv_idiv hx hb dX5_wear_50 (mm_nzs h_9) ?_
  refine lv_aload_n hx hb dX5_wear_51 rfl (lv_at hl 2 rfl) ?_
  refine mm_get C0 hP iw_X5 0 rfl rfl 13 (by decide) fl_X5_30 rfl dX5_wear_52 ?_
  refine lv_iload_n hx hb dX5_wear_55 rfl (lv_at hl 3 rfl) ?_
  obtain ⟨h_10, hf⟩ := mm_cks hf
  refine mm_iald C0 hP 7 rfl h_10 dX5_wear_56 ?_
  obtain ⟨r_11, w_12, w_13, hc_14, hf⟩ := mm_bd3s hf
  refine mm_callW (q0 := 9) (ci := 2) (w2 := (wd_X5 cI cL cS cH a v_rows v_cols v_high v_wide v_folds v_wrong v_more v_rowOf v_colOf v_below v_face v_worn v_last v_bend v_tall ++ wd_X2 cI cL cS cH (fun k => a (k + 9)) p3_size p3_stepCount p3_draftCount p3_place p3_fault w_12 p3_tape p3_steps p3_draft w_13)) (rest := []) C0 lk_X5_150 (ctX2_worth (a := (fun k => a (k + 9))) (d := d - 1) (by omega) hc_14) (by omega) rfl hl.1 rfl (mm_cat rfl) dX5_wear_57 hP hD hA hS rfl rfl [false, false, false, false, false, false, false, false, false, true, true, true, true, true] rfl rfl rfl rfl (fun H locs hP hD hS => ?_)
  refine W.eq (g2 := F0 m 60 ls [.int r_11]) rfl ?_
  refine lv_istore (lv' := [(6, .int r_11), (5, .int y_7), (4, .int s0), (0, .ref (a 0)), (1, .int x1), (2, .int x2), (3, .ref (a 9))]) hx hb dX5_wear_60 hl (by decide) rfl (fun ls hl => ?_)
  refine lv_aload_n hx hb dX5_wear_62 rfl (lv_at hl 3 rfl) ?_
  refine mm_get C0 hP iw_X5 0 rfl rfl 11 (by decide) fl_X5_24 rfl dX5_wear_63 ?_
  refine lv_iload_n hx hb dX5_wear_66 rfl (lv_at hl 4 rfl) ?_
  refine lv_bipush (v := 99) hx hb dX5_wear_67 (by decide) ?_
  refine lv_iload hx hb dX5_wear_69 (lv_at hl 1 rfl) ?_
  refine lv_iload hx hb dX5_wear_71 (lv_at hl 0 rfl) ?_
  refine lv_iadd hx hb dX5_wear_73 ?_
  refine mm_mmin C0 lm_X5_156 (by omega) hl.1 (mm_cat rfl) dX5_wear_74 ?_
  refine lv_topi (fun y_15 ey_15 => ?_)
  have hf := mm_nms hf ey_15
  obtain ⟨h_16, hf⟩ := mm_cks hf
  refine mm_iast C0 hP hD hS 5 rfl h_16 dX5_wear_77 (w2 := (wd_X5 cI cL cS cH a v_rows v_cols v_high v_wide v_folds v_wrong v_more v_rowOf v_colOf v_below v_face (mm_is v_worn x1 y_15) v_last v_bend v_tall ++ wd_X2 cI cL cS cH (fun k => a (k + 9)) p3_size p3_stepCount p3_draftCount p3_place p3_fault w_12 p3_tape p3_steps p3_draft w_13)) rfl (fun H locs hP hD hS => ?_)
  generalize el_17 : (mm_is v_worn x1 y_15) = l_17 at hP hD
  have hf := mm_nms hf el_17.symm
  refine lv_aload_n hx hb dX5_wear_78 rfl (lv_at hl 3 rfl) ?_
  refine mm_get C0 hP iw_X5 0 rfl rfl 12 (by decide) fl_X5_27 rfl dX5_wear_79 ?_
  refine lv_iload_n hx hb dX5_wear_82 rfl (lv_at hl 4 rfl) ?_
  refine lv_aload_n hx hb dX5_wear_83 rfl (lv_at hl 3 rfl) ?_
  refine mm_get C0 hP iw_X5 0 rfl rfl 13 (by decide) fl_X5_30 rfl dX5_wear_84 ?_
  refine lv_iload_n hx hb dX5_wear_87 rfl (lv_at hl 4 rfl) ?_
  obtain ⟨h_18, hf⟩ := mm_cks hf
  refine mm_iald C0 hP 7 rfl h_18 dX5_wear_88 ?_
  refine lv_topi (fun y_19 ey_19 => ?_)
  have hf := mm_nms hf ey_19
  obtain ⟨h_20, hf⟩ := mm_cks hf
  refine mm_iast C0 hP hD hS 6 rfl h_20 dX5_wear_89 (w2 := (wd_X5 cI cL cS cH a v_rows v_cols v_high v_wide v_folds v_wrong v_more v_rowOf v_colOf v_below v_face l_17 (mm_is v_last x1 y_19) v_bend v_tall ++ wd_X2 cI cL cS cH (fun k => a (k + 9)) p3_size p3_stepCount p3_draftCount p3_place p3_fault w_12 p3_tape p3_steps p3_draft w_13)) rfl (fun H locs hP hD hS => ?_)
  generalize el_21 : (mm_is v_last x1 y_19) = l_21 at hP hD
  have hf := mm_nms hf el_21.symm
  refine lv_aload_n hx hb dX5_wear_90 rfl (lv_at hl 3 rfl) ?_
  refine lv_dup hx hb dX5_wear_91 rfl ?_
  refine mm_get C0 hP iw_X5 0 rfl rfl 6 (by decide) fl_X5_65 rfl dX5_wear_92 ?_
  refine lv_aload_n hx hb dX5_wear_95 rfl (lv_at hl 3 rfl) ?_
  refine mm_get C0 hP iw_X5 0 rfl rfl 11 (by decide) fl_X5_24 rfl dX5_wear_96 ?_
  refine lv_iload_n hx hb dX5_wear_99 rfl (lv_at hl 4 rfl) ?_
  obtain ⟨h_22, hf⟩ := mm_cks hf
  refine mm_iald C0 hP 5 rfl h_22 dX5_wear_100 ?_
  refine lv_iload hx hb dX5_wear_101 (lv_at hl 1 rfl) ?_
  refine lv_isub hx hb dX5_wear_103 ?_
  refine lv_iadd hx hb dX5_wear_104 ?_
  refine lv_topi (fun y_23 ey_23 => ?_)
  have hf := mm_nms hf ey_23
  refine mm_put C0 hP hD hS iw_X5 tyX5 tyX5_ok nmX5 0 rfl rfl 6 (by decide) fl_X5_65 rfl rfl rfl (Nat.le_of_ble_eq_true rfl) dX5_wear_105 (w2 := (wd_X5 cI cL cS cH a v_rows v_cols v_high v_wide v_folds v_wrong y_23 v_rowOf v_colOf v_below v_face l_17 l_21 v_bend v_tall ++ wd_X2 cI cL cS cH (fun k => a (k + 9)) p3_size p3_stepCount p3_draftCount p3_place p3_fault w_12 p3_tape p3_steps p3_draft w_13)) rfl (fun H locs hP hD hS => ?_)
  refine lv_aload_n hx hb dX5_wear_108 rfl (lv_at hl 3 rfl) ?_
  refine lv_dup hx hb dX5_wear_109 rfl ?_
  refine mm_get C0 hP iw_X5 0 rfl rfl 5 (by decide) fl_X5_62 rfl dX5_wear_110 ?_
  refine lv_iload hx hb dX5_wear_113 (lv_at hl 2 rfl) ?_
  refine lv_iadd hx hb dX5_wear_115 ?_
  refine lv_topi (fun y_24 ey_24 => ?_)
  have hf := mm_nms hf ey_24
  refine mm_put C0 hP hD hS iw_X5 tyX5 tyX5_ok nmX5 0 rfl rfl 5 (by decide) fl_X5_62 rfl rfl rfl (Nat.le_of_ble_eq_true rfl) dX5_wear_116 (w2 := (wd_X5 cI cL cS cH a v_rows v_cols v_high v_wide v_folds y_24 y_23 v_rowOf v_colOf v_below v_face l_17 l_21 v_bend v_tall ++ wd_X2 cI cL cS cH (fun k => a (k + 9)) p3_size p3_stepCount p3_draftCount p3_place p3_fault w_12 p3_tape p3_steps p3_draft w_13)) rfl (fun H locs hP hD hS => ?_)
  apply mm_sub6 hf
  exact mm_vret C0 hP hD hS dX5_wear_119

def fX5_wear_28 (N : Nat)  (x1 : Int32) (x2 : Int32) (v_wrong : Int32) (v_more : Int32) (v_worn : List Int32) (v_last : List Int32) (v_bend : List Int32) (p3_stepCount : Int32) (p3_stacked : Int32) (p3_steps : List Int32) (p3_stack : List Int32) : Option (Int32 × Int32 × List Int32 × List Int32 × Int32 × List Int32) :=
    fX5_wear_29 N x1 x2 (0 : Int32) v_wrong v_more v_worn v_last v_bend p3_stepCount p3_stacked p3_steps p3_stack

set_option maxHeartbeats 4000000 in
set_option maxRecDepth 100000 in
theorem tX5_wear_28 {p : Program} {l : Launch} {e : Env} {s : State} {m : MethodId} {args : Array Value} {below : List Frame} {meth : Method} {c : Code} {D : va_G} {cI cL cS cH : ClassId} {A : Nat → Prop} {d : Nat} {a : Nat → Nat} (hd : 3 ≤ d) (C0 : mm_Cx p s m args meth c RX5 cX5_wear 7 none D (mm_T cI cL cS cH) A) (hA : ∀ q, s.heap.size ≤ q → A q) {v_rows : Int32} {v_cols : Int32} {v_high : Int32} {v_wide : Int32} {v_folds : Int32} {v_rowOf : List Int32} {v_colOf : List Int32} {v_below : List Int32} {v_face : List Int32} {v_tall : List Int32} {p3_size : Int32} {p3_draftCount : Int32} {p3_place : Int32} {p3_fault : Int32} {p3_tape : List Int32} {p3_draft : List Int32} {w_wrong : Int32} {w_more : Int32} {w_worn : List Int32} {w_last : List Int32} {wp3_stacked : Int32} {wp3_stack : List Int32} (N : Nat)  : ∀ (x1 : Int32) (x2 : Int32) (v_wrong : Int32) (v_more : Int32) (v_worn : List Int32) (v_last : List Int32) (v_bend : List Int32) (p3_stepCount : Int32) (p3_stacked : Int32) (p3_steps : List Int32) (p3_stack : List Int32) (H : Heap) (locs : List Loc) (ls : Array Slot), fX5_wear_28 N x1 x2 v_wrong v_more v_worn v_last v_bend p3_stepCount p3_stacked p3_steps p3_stack = some (w_wrong, w_more, w_worn, w_last, wp3_stacked, wp3_stack) → va_P D mm_cl (wd_X5 cI cL cS cH a v_rows v_cols v_high v_wide v_folds v_wrong v_more v_rowOf v_colOf v_below v_face v_worn v_last v_bend v_tall ++ wd_X2 cI cL cS cH (fun k => a (k + 9)) p3_size p3_stepCount p3_draftCount p3_place p3_fault p3_stacked p3_tape p3_steps p3_draft p3_stack) H → va_D A (wd_X5 cI cL cS cH a v_rows v_cols v_high v_wide v_folds v_wrong v_more v_rowOf v_colOf v_below v_face v_worn v_last v_bend v_tall ++ wd_X2 cI cL cS cH (fun k => a (k + 9)) p3_size p3_stepCount p3_draftCount p3_place p3_fault p3_stacked p3_tape p3_steps p3_draft p3_stack) → va_S A s.heap H locs → lv_has ls 7 [(0, .ref (a 0)), (1, .int x1), (2, .int x2), (3, .ref (a 9))] → W p l e (mm_rr d) s m args below meth c H locs 0 0 (mm_Z below D A (wd_X5 cI cL cS cH a v_rows v_cols v_high v_wide v_folds w_wrong w_more v_rowOf v_colOf v_below v_face w_worn w_last v_bend v_tall ++ wd_X2 cI cL cS cH (fun k => a (k + 9)) p3_size p3_stepCount p3_draftCount p3_place p3_fault wp3_stacked p3_tape p3_steps p3_draft wp3_stack) none args s) (F0 m 28 ls []) := by
  obtain ⟨hx, hb, hml, hown, hts, hr, hlocks, hK, hSt⟩ := id C0
  intro x1 x2 v_wrong v_more v_worn v_last v_bend p3_stepCount p3_stacked p3_steps p3_stack H locs ls hf hP hD hS hl
  unfold fX5_wear_28 at hf
  refine lv_iconst (v := 0) hx hb dX5_wear_28 (by decide) ?_
  exact tX5_wear_29 hd C0 hA N  _ _ _ _ _ _ _ _ _ _ _ _ H locs ls hf hP hD hS (lv_sub hl [0, 1, 2, 3] rfl)

def fX5_wear (N : Nat) (x1 : Int32) (x2 : Int32) (v_wrong : Int32) (v_more : Int32) (v_worn : List Int32) (v_last : List Int32) (v_bend : List Int32) (p3_stepCount : Int32) (p3_stacked : Int32) (p3_steps : List Int32) (p3_stack : List Int32) : Option (Int32 × Int32 × List Int32 × List Int32 × Int32 × List Int32) :=
    mm_ck (mm_inb x1 v_last.length) (if (mm_ig v_last x1) = 0 then
    (fX5_wear_28 N x1 x2 v_wrong v_more v_worn v_last v_bend p3_stepCount p3_stacked p3_steps p3_stack)
    else (mm_ck (mm_inb x1 v_last.length) (mm_ck (mm_inb x1 v_bend.length) (if (mm_ig v_last x1) = (mm_ig v_bend x1) then
    (fX5_wear_28 N x1 x2 v_wrong v_more v_worn v_last v_bend p3_stepCount p3_stacked p3_steps p3_stack)
    else (fX5_wear_29 N x1 x2 (1 : Int32) v_wrong v_more v_worn v_last v_bend p3_stepCount p3_stacked p3_steps p3_stack)))))

set_option maxHeartbeats 4000000 in
set_option maxRecDepth 100000 in
theorem ctX5_wear {l : Launch} {D : va_G} {cI cL cS cH : ClassId} {a : Nat → Nat} {x1 : Int32} {x2 : Int32} {v_rows : Int32} {v_cols : Int32} {v_high : Int32} {v_wide : Int32} {v_folds : Int32} {v_wrong : Int32} {v_more : Int32} {v_rowOf : List Int32} {v_colOf : List Int32} {v_below : List Int32} {v_face : List Int32} {v_worn : List Int32} {v_last : List Int32} {v_bend : List Int32} {v_tall : List Int32} {p3_size : Int32} {p3_stepCount : Int32} {p3_draftCount : Int32} {p3_place : Int32} {p3_fault : Int32} {p3_stacked : Int32} {p3_tape : List Int32} {p3_steps : List Int32} {p3_draft : List Int32} {p3_stack : List Int32} {w_wrong : Int32} {w_more : Int32} {w_worn : List Int32} {w_last : List Int32} {wp3_stacked : Int32} {wp3_stack : List Int32} {N d : Nat} (hd : 3 ≤ d) (hf : fX5_wear N x1 x2 v_wrong v_more v_worn v_last v_bend p3_stepCount p3_stacked p3_steps p3_stack = some (w_wrong, w_more, w_worn, w_last, wp3_stacked, wp3_stack)) : mm_Ct l yX5_wear cX5_wear 7 none d D (mm_T cI cL cS cH) [.ref (a 0), .int x1, .int x2, .ref (a 9)] (wd_X5 cI cL cS cH a v_rows v_cols v_high v_wide v_folds v_wrong v_more v_rowOf v_colOf v_below v_face v_worn v_last v_bend v_tall ++ wd_X2 cI cL cS cH (fun k => a (k + 9)) p3_size p3_stepCount p3_draftCount p3_place p3_fault p3_stacked p3_tape p3_steps p3_draft p3_stack) (wd_X5 cI cL cS cH a v_rows v_cols v_high v_wide v_folds w_wrong w_more v_rowOf v_colOf v_below v_face w_worn w_last v_bend v_tall ++ wd_X2 cI cL cS cH (fun k => a (k + 9)) p3_size p3_stepCount p3_draftCount p3_place p3_fault wp3_stacked p3_tape p3_steps p3_draft wp3_stack) none := by
  refine mm_of (by decide) (Nat.le_of_ble_eq_true rfl) ?_
  intro p e s m args below meth c A H locs ls C0 hP hD hA hS hl
  have C0 : mm_Cx p s m args meth c RX5 cX5_wear 7 none D (mm_T cI cL cS cH) A := C0
  obtain ⟨hx, hb, hml, hown, hts, hr, hlocks, hK, hSt⟩ := id C0
  have hl : lv_has ls 7 [(0, .ref (a 0)), (1, .int x1), (2, .int x2), (3, .ref (a 9))] := hl
  unfold fX5_wear at hf
  refine lv_aload_n hx hb dX5_wear_0 rfl (lv_at hl 0 rfl) ?_
  refine mm_get C0 hP iw_X5 0 rfl rfl 12 (by decide) fl_X5_27 rfl dX5_wear_1 ?_
  refine lv_iload_n hx hb dX5_wear_4 rfl (lv_at hl 1 rfl) ?_
  obtain ⟨h_1, hf⟩ := mm_cks hf
  refine mm_iald C0 hP 6 rfl h_1 dX5_wear_5 ?_
  refine lv_if_eq (tgt := 28) hx hb dX5_wear_6 (by decide) (fun c_2 => ?_) (fun c_2 => ?_)
  · have hf := mm_ip hf c_2
    exact tX5_wear_28 hd C0 hA N  _ _ _ _ _ _ _ _ _ _ _ H locs ls hf hP hD hS (lv_sub hl [0, 1, 2, 3] rfl)
  · have hf := mm_in hf c_2
    refine lv_aload_n hx hb dX5_wear_9 rfl (lv_at hl 0 rfl) ?_
    refine mm_get C0 hP iw_X5 0 rfl rfl 12 (by decide) fl_X5_27 rfl dX5_wear_10 ?_
    refine lv_iload_n hx hb dX5_wear_13 rfl (lv_at hl 1 rfl) ?_
    obtain ⟨h_3, hf⟩ := mm_cks hf
    refine mm_iald C0 hP 6 rfl h_3 dX5_wear_14 ?_
    refine lv_aload_n hx hb dX5_wear_15 rfl (lv_at hl 0 rfl) ?_
    refine mm_get C0 hP iw_X5 0 rfl rfl 13 (by decide) fl_X5_30 rfl dX5_wear_16 ?_
    refine lv_iload_n hx hb dX5_wear_19 rfl (lv_at hl 1 rfl) ?_
    obtain ⟨h_4, hf⟩ := mm_cks hf
    refine mm_iald C0 hP 7 rfl h_4 dX5_wear_20 ?_
    refine lv_icmp_eq (tgt := 28) hx hb dX5_wear_21 (by decide) (fun c_5 => ?_) (fun c_5 => ?_)
    · have hf := mm_ip hf c_5
      exact tX5_wear_28 hd C0 hA N  _ _ _ _ _ _ _ _ _ _ _ H locs ls hf hP hD hS (lv_sub hl [0, 1, 2, 3] rfl)
    · have hf := mm_in hf c_5
      refine lv_iconst (v := 1) hx hb dX5_wear_24 (by decide) ?_
      refine lv_goto (tgt := 29) hx hb dX5_wear_25 (by decide) ?_
      exact tX5_wear_29 hd C0 hA N  _ _ _ _ _ _ _ _ _ _ _ _ H locs ls hf hP hD hS (lv_sub hl [0, 1, 2, 3] rfl)

theorem dX5_bendAndTurn_0 : decode cX5_bendAndTurn 0 = .ok (.aload_n 0, 1) := by decide +kernel
theorem dX5_bendAndTurn_1 : decode cX5_bendAndTurn 1 = .ok (.iload_n 1, 1) := by decide +kernel
theorem dX5_bendAndTurn_2 : decode cX5_bendAndTurn 2 = .ok (.iload_n 2, 1) := by decide +kernel
theorem dX5_bendAndTurn_3 : decode cX5_bendAndTurn 3 = .ok (.iload_n 3, 1) := by decide +kernel
theorem dX5_bendAndTurn_4 : decode cX5_bendAndTurn 4 = .ok (.invokevirtual 121, 3) := by decide +kernel
theorem dX5_bendAndTurn_7 : decode cX5_bendAndTurn 7 = .ok (.istore 5, 2) := by decide +kernel
theorem dX5_bendAndTurn_9 : decode cX5_bendAndTurn 9 = .ok (.iconst 0, 1) := by decide +kernel
theorem dX5_bendAndTurn_10 : decode cX5_bendAndTurn 10 = .ok (.istore 6, 2) := by decide +kernel
theorem dX5_bendAndTurn_12 : decode cX5_bendAndTurn 12 = .ok (.iload 6, 2) := by decide +kernel
theorem dX5_bendAndTurn_14 : decode cX5_bendAndTurn 14 = .ok (.iconst 2, 1) := by decide +kernel
theorem dX5_bendAndTurn_15 : decode cX5_bendAndTurn 15 = .ok (.aload_n 0, 1) := by decide +kernel
theorem dX5_bendAndTurn_16 : decode cX5_bendAndTurn 16 = .ok (.invokevirtual 84, 3) := by decide +kernel
theorem dX5_bendAndTurn_19 : decode cX5_bendAndTurn 19 = .ok (.imul, 1) := by decide +kernel
theorem dX5_bendAndTurn_20 : decode cX5_bendAndTurn 20 = .ok (.if_icmp .ge 29, 3) := by decide +kernel
theorem dX5_bendAndTurn_23 : decode cX5_bendAndTurn 23 = .ok (.aload_n 0, 1) := by decide +kernel
theorem dX5_bendAndTurn_24 : decode cX5_bendAndTurn 24 = .ok (.getfield 30, 3) := by decide +kernel
theorem dX5_bendAndTurn_27 : decode cX5_bendAndTurn 27 = .ok (.iload 6, 2) := by decide +kernel
theorem dX5_bendAndTurn_29 : decode cX5_bendAndTurn 29 = .ok (.iaload, 1) := by decide +kernel
theorem dX5_bendAndTurn_30 : decode cX5_bendAndTurn 30 = .ok (.ifCond .eq 13, 3) := by decide +kernel
theorem dX5_bendAndTurn_33 : decode cX5_bendAndTurn 33 = .ok (.aload_n 0, 1) := by decide +kernel
theorem dX5_bendAndTurn_34 : decode cX5_bendAndTurn 34 = .ok (.iload 6, 2) := by decide +kernel
theorem dX5_bendAndTurn_36 : decode cX5_bendAndTurn 36 = .ok (.iload 5, 2) := by decide +kernel
theorem dX5_bendAndTurn_38 : decode cX5_bendAndTurn 38 = .ok (.aload 4, 2) := by decide +kernel
theorem dX5_bendAndTurn_40 : decode cX5_bendAndTurn 40 = .ok (.invokevirtual 124, 3) := by decide +kernel
theorem dX5_bendAndTurn_43 : decode cX5_bendAndTurn 43 = .ok (.iinc 6 1, 3) := by decide +kernel
theorem dX5_bendAndTurn_46 : decode cX5_bendAndTurn 46 = .ok (.goto (-34), 3) := by decide +kernel
theorem dX5_bendAndTurn_49 : decode cX5_bendAndTurn 49 = .ok (.aload_n 0, 1) := by decide +kernel
theorem dX5_bendAndTurn_50 : decode cX5_bendAndTurn 50 = .ok (.iload_n 1, 1) := by decide +kernel
theorem dX5_bendAndTurn_51 : decode cX5_bendAndTurn 51 = .ok (.iload_n 2, 1) := by decide +kernel
theorem dX5_bendAndTurn_52 : decode cX5_bendAndTurn 52 = .ok (.invokevirtual 128, 3) := by decide +kernel
theorem dX5_bendAndTurn_55 : decode cX5_bendAndTurn 55 = .ok (.aload_n 0, 1) := by decide +kernel
theorem dX5_bendAndTurn_56 : decode cX5_bendAndTurn 56 = .ok (.dup, 1) := by decide +kernel
theorem dX5_bendAndTurn_57 : decode cX5_bendAndTurn 57 = .ok (.getfield 59, 3) := by decide +kernel
theorem dX5_bendAndTurn_60 : decode cX5_bendAndTurn 60 = .ok (.iconst 1, 1) := by decide +kernel
theorem dX5_bendAndTurn_61 : decode cX5_bendAndTurn 61 = .ok (.iadd, 1) := by decide +kernel
theorem dX5_bendAndTurn_62 : decode cX5_bendAndTurn 62 = .ok (.putfield 59, 3) := by decide +kernel
theorem dX5_bendAndTurn_65 : decode cX5_bendAndTurn 65 = .ok (.iload 5, 2) := by decide +kernel
theorem dX5_bendAndTurn_67 : decode cX5_bendAndTurn 67 = .ok (.ireturn, 1) := by decide +kernel
def fX5_bendAndTurn_43 (N : Nat) (k_12 : Int32 → Int32 → Int32 → Int32 → Int32 → Int32 → Int32 → Int32 → Int32 → Int32 → Int32 → List Int32 → List Int32 → List Int32 → List Int32 → List Int32 → List Int32 → List Int32 → List Int32 → Int32 → Int32 → List Int32 → List Int32 → Option (Int32 × Int32 × Int32 × Int32 × Int32 × Int32 × List Int32 × List Int32 × List Int32 × List Int32 × List Int32 × List Int32 × List Int32 × List Int32 × Int32 × List Int32)) (x1 : Int32) (x2 : Int32) (x5 : Int32) (x6 : Int32) (v_rows : Int32) (v_cols : Int32) (v_high : Int32) (v_wide : Int32) (v_folds : Int32) (v_wrong : Int32) (v_more : Int32) (v_rowOf : List Int32) (v_colOf : List Int32) (v_below : List Int32) (v_face : List Int32) (v_worn : List Int32) (v_last : List Int32) (v_bend : List Int32) (v_tall : List Int32) (p4_stepCount : Int32) (p4_stacked : Int32) (p4_steps : List Int32) (p4_stack : List Int32) : Option (Int32 × Int32 × Int32 × Int32 × Int32 × Int32 × List Int32 × List Int32 × List Int32 × List Int32 × List Int32 × List Int32 × List Int32 × List Int32 × Int32 × List Int32) :=
    mm_nm (x6 + (1 : Int32)) (fun (y_25 : Int32) =>
    k_12 x1 x2 x5 y_25 v_rows v_cols v_high v_wide v_folds v_wrong v_more v_rowOf v_colOf v_below v_face v_worn v_last v_bend v_tall p4_stepCount p4_stacked p4_steps p4_stack)

set_option maxHeartbeats 4000000 in
set_option maxRecDepth 100000 in
theorem tX5_bendAndTurn_43 {p : Program} {l : Launch} {e : Env} {s : State} {m : MethodId} {args : Array Value} {below : List Frame} {meth : Method} {c : Code} {D : va_G} {cI cL cS cH : ClassId} {A : Nat → Prop} {d : Nat} {a : Nat → Nat} (hd : 5 ≤ d) (C0 : mm_Cx p s m args meth c RX5 cX5_bendAndTurn 7 (some .int) D (mm_T cI cL cS cH) A) (hA : ∀ q, s.heap.size ≤ q → A q) {p4_size : Int32} {p4_draftCount : Int32} {p4_place : Int32} {p4_fault : Int32} {p4_tape : List Int32} {p4_draft : List Int32} {r : Int32} {w_high : Int32} {w_wide : Int32} {w_folds : Int32} {w_wrong : Int32} {w_more : Int32} {w_rowOf : List Int32} {w_colOf : List Int32} {w_below : List Int32} {w_face : List Int32} {w_worn : List Int32} {w_last : List Int32} {w_bend : List Int32} {w_tall : List Int32} {wp4_stacked : Int32} {wp4_stack : List Int32} (N : Nat) {k_12 : Int32 → Int32 → Int32 → Int32 → Int32 → Int32 → Int32 → Int32 → Int32 → Int32 → Int32 → List Int32 → List Int32 → List Int32 → List Int32 → List Int32 → List Int32 → List Int32 → List Int32 → Int32 → Int32 → List Int32 → List Int32 → Option (Int32 × Int32 × Int32 × Int32 × Int32 × Int32 × List Int32 × List Int32 × List Int32 × List Int32 × List Int32 × List Int32 × List Int32 × List Int32 × Int32 × List Int32)} (hk_12 : ∀ (x1 : Int32) (x2 : Int32) (x5 : Int32) (x6 : Int32) (v_rows : Int32) (v_cols : Int32) (v_high : Int32) (v_wide : Int32) (v_folds : Int32) (v_wrong : Int32) (v_more : Int32) (v_rowOf : List Int32) (v_colOf : List Int32) (v_below : List Int32) (v_face : List Int32) (v_worn : List Int32) (v_last : List Int32) (v_bend : List Int32) (v_tall : List Int32) (p4_stepCount : Int32) (p4_stacked : Int32) (p4_steps : List Int32) (p4_stack : List Int32) (H : Heap) (locs : List Loc) (ls : Array Slot), k_12 x1 x2 x5 x6 v_rows v_cols v_high v_wide v_folds v_wrong v_more v_rowOf v_colOf v_below v_face v_worn v_last v_bend v_tall p4_stepCount p4_stacked p4_steps p4_stack = some (r, w_high, w_wide, w_folds, w_wrong, w_more, w_rowOf, w_colOf, w_below, w_face, w_worn, w_last, w_bend, w_tall, wp4_stacked, wp4_stack) → va_P D mm_cl (wd_X5 cI cL cS cH a v_rows v_cols v_high v_wide v_folds v_wrong v_more v_rowOf v_colOf v_below v_face v_worn v_last v_bend v_tall ++ wd_X2 cI cL cS cH (fun k => a (k + 9)) p4_size p4_stepCount p4_draftCount p4_place p4_fault p4_stacked p4_tape p4_steps p4_draft p4_stack) H → va_D A (wd_X5 cI cL cS cH a v_rows v_cols v_high v_wide v_folds v_wrong v_more v_rowOf v_colOf v_below v_face v_worn v_last v_bend v_tall ++ wd_X2 cI cL cS cH (fun k => a (k + 9)) p4_size p4_stepCount p4_draftCount p4_place p4_fault p4_stacked p4_tape p4_steps p4_draft p4_stack) → va_S A s.heap H locs → lv_has ls 7 [(0, .ref (a 0)), (1, .int x1), (2, .int x2), (4, .ref (a 9)), (5, .int x5), (6, .int x6)] → W p l e (mm_rr d) s m args below meth c H locs 0 0 (mm_Z below D A (wd_X5 cI cL cS cH a v_rows v_cols w_high w_wide w_folds w_wrong w_more w_rowOf w_colOf w_below w_face w_worn w_last w_bend w_tall ++ wd_X2 cI cL cS cH (fun k => a (k + 9)) p4_size p4_stepCount p4_draftCount p4_place p4_fault wp4_stacked p4_tape p4_steps p4_draft wp4_stack) (some (.int r)) args s) (F0 m 12 ls [])) : ∀ (x1 : Int32) (x2 : Int32) (x5 : Int32) (x6 : Int32) (v_rows : Int32) (v_cols : Int32) (v_high : Int32) (v_wide : Int32) (v_folds : Int32) (v_wrong : Int32) (v_more : Int32) (v_rowOf : List Int32) (v_colOf : List Int32) (v_below : List Int32) (v_face : List Int32) (v_worn : List Int32) (v_last : List Int32) (v_bend : List Int32) (v_tall : List Int32) (p4_stepCount : Int32) (p4_stacked : Int32) (p4_steps : List Int32) (p4_stack : List Int32) (H : Heap) (locs : List Loc) (ls : Array Slot), fX5_bendAndTurn_43 N k_12 x1 x2 x5 x6 v_rows v_cols v_high v_wide v_folds v_wrong v_more v_rowOf v_colOf v_below v_face v_worn v_last v_bend v_tall p4_stepCount p4_stacked p4_steps p4_stack = some (r, w_high, w_wide, w_folds, w_wrong, w_more, w_rowOf, w_colOf, w_below, w_face, w_worn, w_last, w_bend, w_tall, wp4_stacked, wp4_stack) → va_P D mm_cl (wd_X5 cI cL cS cH a v_rows v_cols v_high v_wide v_folds v_wrong v_more v_rowOf v_colOf v_below v_face v_worn v_last v_bend v_tall ++ wd_X2 cI cL cS cH (fun k => a (k + 9)) p4_size p4_stepCount p4_draftCount p4_place p4_fault p4_stacked p4_tape p4_steps p4_draft p4_stack) H → va_D A (wd_X5 cI cL cS cH a v_rows v_cols v_high v_wide v_folds v_wrong v_more v_rowOf v_colOf v_below v_face v_worn v_last v_bend v_tall ++ wd_X2 cI cL cS cH (fun k => a (k + 9)) p4_size p4_stepCount p4_draftCount p4_place p4_fault p4_stacked p4_tape p4_steps p4_draft p4_stack) → va_S A s.heap H locs → lv_has ls 7 [(0, .ref (a 0)), (1, .int x1), (2, .int x2), (4, .ref (a 9)), (5, .int x5), (6, .int x6)] → W p l e (mm_rr d) s m args below meth c H locs 0 0 (mm_Z below D A (wd_X5 cI cL cS cH a v_rows v_cols w_high w_wide w_folds w_wrong w_more w_rowOf w_colOf w_below w_face w_worn w_last w_bend w_tall ++ wd_X2 cI cL cS cH (fun k => a (k + 9)) p4_size p4_stepCount p4_draftCount p4_place p4_fault wp4_stacked p4_tape p4_steps p4_draft wp4_stack) (some (.int r)) args s) (F0 m 43 ls []) := by
  obtain ⟨hx, hb, hml, hown, hts, hr, hlocks, hK, hSt⟩ := id C0
  intro x1 x2 x5 x6 v_rows v_cols v_high v_wide v_folds v_wrong v_more v_rowOf v_colOf v_below v_face v_worn v_last v_bend v_tall p4_stepCount p4_stacked p4_steps p4_stack H locs ls hf hP hD hS hl
  unfold fX5_bendAndTurn_43 at hf
  obtain ⟨y_25, ey_25⟩ : ∃ z : Int32, z = x6 + (1 : Int32) := ⟨_, rfl⟩
  have hf := mm_nms hf ey_25
  refine lv_iinc (v := y_25) (lv' := [(6, .int y_25), (0, .ref (a 0)), (1, .int x1), (2, .int x2), (4, .ref (a 9)), (5, .int x5)]) hx hb dX5_bendAndTurn_43 hl (k := 5) rfl (by rw [ey_25]; rfl) (by decide) rfl (fun ls hl => ?_)
  refine lv_goto (tgt := 12) hx hb dX5_bendAndTurn_46 (by decide) ?_
  exact hk_12 _ _ _ _ _ _ _ _ _ _ _ _ _ _ _ _ _ _ _ _ _ _ _ H locs ls hf hP hD hS (lv_sub hl [1, 2, 3, 4, 5, 0] rfl)

def fX5_bendAndTurn_12 (N : Nat)  : Nat → Int32 → Int32 → Int32 → Int32 → Int32 → Int32 → Int32 → Int32 → Int32 → Int32 → Int32 → List Int32 → List Int32 → List Int32 → List Int32 → List Int32 → List Int32 → List Int32 → List Int32 → Int32 → Int32 → List Int32 → List Int32 → Option (Int32 × Int32 × Int32 × Int32 × Int32 × Int32 × List Int32 × List Int32 × List Int32 × List Int32 × List Int32 × List Int32 × List Int32 × List Int32 × Int32 × List Int32)
  | 0 => fun _ _ _ _ _ _ _ _ _ _ _ _ _ _ _ _ _ _ _ _ _ _ _ => none
  | n + 1 => fun x1 x2 x5 x6 v_rows v_cols v_high v_wide v_folds v_wrong v_more v_rowOf v_colOf v_below v_face v_worn v_last v_bend v_tall p4_stepCount p4_stacked p4_steps p4_stack =>
    mm_bd1 (fX5_fields N v_rows v_cols) (fun (r_4 : Int32) =>
    if ((2 : Int32) * r_4) ≤ x6 then
    (mm_bd7 (fX5_turn N x1 x2 v_rows v_cols v_high v_wide v_rowOf v_colOf v_below v_face v_tall) (fun (w_7 : Int32) (w_8 : Int32) (w_9 : List Int32) (w_10 : List Int32) (w_11 : List Int32) (w_12 : List Int32) (w_13 : List Int32) =>
    mm_nm ((v_folds + (1 : Int32))) (fun (y_15 : Int32) =>
    some (x5, w_7, w_8, y_15, v_wrong, v_more, w_9, w_10, w_11, w_12, v_worn, v_last, v_bend, w_13, p4_stacked, p4_stack))))
    else (mm_ck (mm_inb x6 v_bend.length) (if (mm_ig v_bend x6) = 0 then
    (fX5_bendAndTurn_43 N (fX5_bendAndTurn_12 N n) x1 x2 x5 x6 v_rows v_cols v_high v_wide v_folds v_wrong v_more v_rowOf v_colOf v_below v_face v_worn v_last v_bend v_tall p4_stepCount p4_stacked p4_steps p4_stack)
    else (mm_bd6 (fX5_wear N x6 x5 v_wrong v_more v_worn v_last v_bend p4_stepCount p4_stacked p4_steps p4_stack) (fun (w_18 : Int32) (w_19 : Int32) (w_20 : List Int32) (w_21 : List Int32) (w_22 : Int32) (w_23 : List Int32) =>
    fX5_bendAndTurn_43 N (fX5_bendAndTurn_12 N n) x1 x2 x5 x6 v_rows v_cols v_high v_wide v_folds w_18 w_19 v_rowOf v_colOf v_below v_face w_20 w_21 v_bend v_tall p4_stepCount w_22 p4_steps w_23)))))

set_option maxHeartbeats 4000000 in
set_option maxRecDepth 100000 in
theorem tX5_bendAndTurn_12 {p : Program} {l : Launch} {e : Env} {s : State} {m : MethodId} {args : Array Value} {below : List Frame} {meth : Method} {c : Code} {D : va_G} {cI cL cS cH : ClassId} {A : Nat → Prop} {d : Nat} {a : Nat → Nat} (hd : 5 ≤ d) (C0 : mm_Cx p s m args meth c RX5 cX5_bendAndTurn 7 (some .int) D (mm_T cI cL cS cH) A) (hA : ∀ q, s.heap.size ≤ q → A q) {p4_size : Int32} {p4_draftCount : Int32} {p4_place : Int32} {p4_fault : Int32} {p4_tape : List Int32} {p4_draft : List Int32} {r : Int32} {w_high : Int32} {w_wide : Int32} {w_folds : Int32} {w_wrong : Int32} {w_more : Int32} {w_rowOf : List Int32} {w_colOf : List Int32} {w_below : List Int32} {w_face : List Int32} {w_worn : List Int32} {w_last : List Int32} {w_bend : List Int32} {w_tall : List Int32} {wp4_stacked : Int32} {wp4_stack : List Int32} (N : Nat)  : ∀ (n : Nat), ∀ (x1 : Int32) (x2 : Int32) (x5 : Int32) (x6 : Int32) (v_rows : Int32) (v_cols : Int32) (v_high : Int32) (v_wide : Int32) (v_folds : Int32) (v_wrong : Int32) (v_more : Int32) (v_rowOf : List Int32) (v_colOf : List Int32) (v_below : List Int32) (v_face : List Int32) (v_worn : List Int32) (v_last : List Int32) (v_bend : List Int32) (v_tall : List Int32) (p4_stepCount : Int32) (p4_stacked : Int32) (p4_steps : List Int32) (p4_stack : List Int32) (H : Heap) (locs : List Loc) (ls : Array Slot), fX5_bendAndTurn_12 N n x1 x2 x5 x6 v_rows v_cols v_high v_wide v_folds v_wrong v_more v_rowOf v_colOf v_below v_face v_worn v_last v_bend v_tall p4_stepCount p4_stacked p4_steps p4_stack = some (r, w_high, w_wide, w_folds, w_wrong, w_more, w_rowOf, w_colOf, w_below, w_face, w_worn, w_last, w_bend, w_tall, wp4_stacked, wp4_stack) → va_P D mm_cl (wd_X5 cI cL cS cH a v_rows v_cols v_high v_wide v_folds v_wrong v_more v_rowOf v_colOf v_below v_face v_worn v_last v_bend v_tall ++ wd_X2 cI cL cS cH (fun k => a (k + 9)) p4_size p4_stepCount p4_draftCount p4_place p4_fault p4_stacked p4_tape p4_steps p4_draft p4_stack) H → va_D A (wd_X5 cI cL cS cH a v_rows v_cols v_high v_wide v_folds v_wrong v_more v_rowOf v_colOf v_below v_face v_worn v_last v_bend v_tall ++ wd_X2 cI cL cS cH (fun k => a (k + 9)) p4_size p4_stepCount p4_draftCount p4_place p4_fault p4_stacked p4_tape p4_steps p4_draft p4_stack) → va_S A s.heap H locs → lv_has ls 7 [(0, .ref (a 0)), (1, .int x1), (2, .int x2), (4, .ref (a 9)), (5, .int x5), (6, .int x6)] → W p l e (mm_rr d) s m args below meth c H locs 0 0 (mm_Z below D A (wd_X5 cI cL cS cH a v_rows v_cols w_high w_wide w_folds w_wrong w_more w_rowOf w_colOf w_below w_face w_worn w_last w_bend w_tall ++ wd_X2 cI cL cS cH (fun k => a (k + 9)) p4_size p4_stepCount p4_draftCount p4_place p4_fault wp4_stacked p4_tape p4_steps p4_draft wp4_stack) (some (.int r)) args s) (F0 m 12 ls []) := by
  obtain ⟨hx, hb, hml, hown, hts, hr, hlocks, hK, hSt⟩ := id C0
  intro n
  induction n with
  | zero =>
    intro x1 x2 x5 x6 v_rows v_cols v_high v_wide v_folds v_wrong v_more v_rowOf v_colOf v_below v_face v_worn v_last v_bend v_tall p4_stepCount p4_stacked p4_steps p4_stack H locs ls hf
    cases (show none = some _ from hf)
  | succ n ih =>
    intro x1 x2 x5 x6 v_rows v_cols v_high v_wide v_folds v_wrong v_more v_rowOf v_colOf v_below v_face v_worn v_last v_bend v_tall p4_stepCount p4_stacked p4_steps p4_stack H locs ls hf hP hD hS hl
    unfold fX5_bendAndTurn_12 at hf
    refine lv_iload hx hb dX5_bendAndTurn_12 (lv_at hl 5 rfl) ?_
    refine lv_iconst (v := 2) hx hb dX5_bendAndTurn_14 (by decide) ?_
    refine lv_aload_n hx hb dX5_bendAndTurn_15 rfl (lv_at hl 0 rfl) ?_
    obtain ⟨r_4, hc_5, hf⟩ := mm_bd1s hf
    refine mm_callW (q0 := 0) (ci := 5) (w2 := (wd_X5 cI cL cS cH a v_rows v_cols v_high v_wide v_folds v_wrong v_more v_rowOf v_colOf v_below v_face v_worn v_last v_bend v_tall ++ wd_X2 cI cL cS cH (fun k => a (k + 9)) p4_size p4_stepCount p4_draftCount p4_place p4_fault p4_stacked p4_tape p4_steps p4_draft p4_stack)) (rest := [.int (2 : Int32), .int x6]) C0 lk_X5_84 (ctX5_fields (a := (fun k => a (k + 0))) (d := d - 1) (by omega) hc_5) (by omega) rfl hl.1 rfl (mm_cat rfl) dX5_bendAndTurn_16 hP hD hA hS rfl rfl [true, true, true, true, true, true, true, true, true, false, false, false, false, false] rfl rfl rfl rfl (fun H locs hP hD hS => ?_)
    refine W.eq (g2 := F0 m 19 ls [.int r_4, .int (2 : Int32), .int x6]) rfl ?_
    refine lv_imul hx hb dX5_bendAndTurn_19 ?_
    refine lv_icmp_ge (tgt := 49) hx hb dX5_bendAndTurn_20 (by decide) (fun c_6 => ?_) (fun c_6 => ?_)
    · have hf := mm_ip hf c_6
      refine lv_aload_n hx hb dX5_bendAndTurn_49 rfl (lv_at hl 0 rfl) ?_
      refine lv_iload_n hx hb dX5_bendAndTurn_50 rfl (lv_at hl 1 rfl) ?_
      refine lv_iload_n hx hb dX5_bendAndTurn_51 rfl (lv_at hl 2 rfl) ?_
      refine mm_ct7 hf (fun w_7 w_8 w_9 w_10 w_11 w_12 w_13 hc_14 hf => ?_)
      refine mm_callW (q0 := 0) (ci := 5) (w2 := (wd_X5 cI cL cS cH a v_rows v_cols w_7 w_8 v_folds v_wrong v_more w_9 w_10 w_11 w_12 v_worn v_last v_bend w_13 ++ wd_X2 cI cL cS cH (fun k => a (k + 9)) p4_size p4_stepCount p4_draftCount p4_place p4_fault p4_stacked p4_tape p4_steps p4_draft p4_stack)) (rest := []) C0 lk_X5_128 (ctX5_turn (a := (fun k => a (k + 0))) (d := d - 1) (by omega) hc_14) (by omega) rfl hl.1 rfl (mm_cat rfl) dX5_bendAndTurn_52 hP hD hA hS rfl rfl [true, true, true, true, true, true, true, true, true, false, false, false, false, false] rfl rfl rfl rfl (fun H locs hP hD hS => ?_)
      refine W.eq (g2 := F0 m 55 ls []) rfl ?_
      refine lv_aload_n hx hb dX5_bendAndTurn_55 rfl (lv_at hl 0 rfl) ?_
      refine lv_dup hx hb dX5_bendAndTurn_56 rfl ?_
      refine mm_get C0 hP iw_X5 0 rfl rfl 4 (by decide) fl_X5_59 rfl dX5_bendAndTurn_57 ?_
      refine lv_iconst (v := 1) hx hb dX5_bendAndTurn_60 (by decide) ?_
      refine lv_iadd hx hb dX5_bendAndTurn_61 ?_
      refine lv_topi (fun y_15 ey_15 => ?_)
      have hf := mm_nms hf ey_15
      refine mm_put C0 hP hD hS iw_X5 tyX5 tyX5_ok nmX5 0 rfl rfl 4 (by decide) fl_X5_59 rfl rfl rfl (Nat.le_of_ble_eq_true rfl) dX5_bendAndTurn_62 (w2 := (wd_X5 cI cL cS cH a v_rows v_cols w_7 w_8 y_15 v_wrong v_more w_9 w_10 w_11 w_12 v_worn v_last v_bend w_13 ++ wd_X2 cI cL cS cH (fun k => a (k + 9)) p4_size p4_stepCount p4_draftCount p4_place p4_fault p4_stacked p4_tape p4_steps p4_draft p4_stack)) rfl (fun H locs hP hD hS => ?_)
      refine lv_iload hx hb dX5_bendAndTurn_65 (lv_at hl 4 rfl) ?_
      apply mm_sub16 hf
      exact mm_iret C0 hP hD hS dX5_bendAndTurn_67
    · have hf := mm_in hf c_6
      refine lv_aload_n hx hb dX5_bendAndTurn_23 rfl (lv_at hl 0 rfl) ?_
      refine mm_get C0 hP iw_X5 0 rfl rfl 13 (by decide) fl_X5_30 rfl dX5_bendAndTurn_24 ?_
      refine lv_iload hx hb dX5_bendAndTurn_27 (lv_at hl 5 rfl) ?_
      obtain ⟨h_16, hf⟩ := mm_cks hf
      refine mm_iald C0 hP 7 rfl h_16 dX5_bendAndTurn_29 ?_
      refine lv_if_eq (tgt := 43) hx hb dX5_bendAndTurn_30 (by decide) (fun c_17 => ?_) (fun c_17 => ?_)
      · have hf := mm_ip hf c_17
        exact tX5_bendAndTurn_43 hd C0 hA N ih _ _ _ _ _ _ _ _ _ _ _ _ _ _ _ _ _ _ _ _ _ _ _ H locs ls hf hP hD hS (lv_sub hl [0, 1, 2, 3, 4, 5] rfl)
      · have hf := mm_in hf c_17
        refine lv_aload_n hx hb dX5_bendAndTurn_33 rfl (lv_at hl 0 rfl) ?_
        refine lv_iload hx hb dX5_bendAndTurn_34 (lv_at hl 5 rfl) ?_
        refine lv_iload hx hb dX5_bendAndTurn_36 (lv_at hl 4 rfl) ?_
        refine lv_aload hx hb dX5_bendAndTurn_38 (lv_at hl 3 rfl) ?_
        refine mm_ct6 hf (fun w_18 w_19 w_20 w_21 w_22 w_23 hc_24 hf => ?_)
        refine mm_callVF (q0 := 0) (ci := 5) (rest := []) C0 lk_X5_124 (ctX5_wear (a := a) (d := d - 1) (by omega) hc_24) (by omega) rfl hl.1 rfl (mm_cat rfl) dX5_bendAndTurn_40 hP hD hA hS rfl rfl (fun H locs hP hD hS => ?_)
        refine W.eq (g2 := F0 m 43 ls []) rfl ?_
        exact tX5_bendAndTurn_43 hd C0 hA N ih _ _ _ _ _ _ _ _ _ _ _ _ _ _ _ _ _ _ _ _ _ _ _ H locs ls hf hP hD hS (lv_sub hl [0, 1, 2, 3, 4, 5] rfl)

def fX5_bendAndTurn (N : Nat) (x1 : Int32) (x2 : Int32) (x3 : Int32) (v_rows : Int32) (v_cols : Int32) (v_high : Int32) (v_wide : Int32) (v_folds : Int32) (v_wrong : Int32) (v_more : Int32) (v_rowOf : List Int32) (v_colOf : List Int32) (v_below : List Int32) (v_face : List Int32) (v_worn : List Int32) (v_last : List Int32) (v_bend : List Int32) (v_tall : List Int32) (p4_stepCount : Int32) (p4_stacked : Int32) (p4_steps : List Int32) (p4_stack : List Int32) : Option (Int32 × Int32 × Int32 × Int32 × Int32 × Int32 × List Int32 × List Int32 × List Int32 × List Int32 × List Int32 × List Int32 × List Int32 × List Int32 × Int32 × List Int32) :=
    mm_bd2 (fX5_markBends N x1 x2 x3 v_rows v_cols v_rowOf v_colOf v_face v_worn v_bend) (fun (r_1 : Int32) (w_2 : List Int32) =>
    fX5_bendAndTurn_12 N N x1 x2 r_1 (0 : Int32) v_rows v_cols v_high v_wide v_folds v_wrong v_more v_rowOf v_colOf v_below v_face v_worn v_last w_2 v_tall p4_stepCount p4_stacked p4_steps p4_stack)

set_option maxHeartbeats 4000000 in
set_option maxRecDepth 100000 in
theorem ctX5_bendAndTurn {l : Launch} {D : va_G} {cI cL cS cH : ClassId} {a : Nat → Nat} {x1 : Int32} {x2 : Int32} {x3 : Int32} {v_rows : Int32} {v_cols : Int32} {v_high : Int32} {v_wide : Int32} {v_folds : Int32} {v_wrong : Int32} {v_more : Int32} {v_rowOf : List Int32} {v_colOf : List Int32} {v_below : List Int32} {v_face : List Int32} {v_worn : List Int32} {v_last : List Int32} {v_bend : List Int32} {v_tall : List Int32} {p4_size : Int32} {p4_stepCount : Int32} {p4_draftCount : Int32} {p4_place : Int32} {p4_fault : Int32} {p4_stacked : Int32} {p4_tape : List Int32} {p4_steps : List Int32} {p4_draft : List Int32} {p4_stack : List Int32} {r : Int32} {w_high : Int32} {w_wide : Int32} {w_folds : Int32} {w_wrong : Int32} {w_more : Int32} {w_rowOf : List Int32} {w_colOf : List Int32} {w_below : List Int32} {w_face : List Int32} {w_worn : List Int32} {w_last : List Int32} {w_bend : List Int32} {w_tall : List Int32} {wp4_stacked : Int32} {wp4_stack : List Int32} {N d : Nat} (hd : 5 ≤ d) (hf : fX5_bendAndTurn N x1 x2 x3 v_rows v_cols v_high v_wide v_folds v_wrong v_more v_rowOf v_colOf v_below v_face v_worn v_last v_bend v_tall p4_stepCount p4_stacked p4_steps p4_stack = some (r, w_high, w_wide, w_folds, w_wrong, w_more, w_rowOf, w_colOf, w_below, w_face, w_worn, w_last, w_bend, w_tall, wp4_stacked, wp4_stack)) : mm_Ct l yX5_bendAndTurn cX5_bendAndTurn 7 (some .int) d D (mm_T cI cL cS cH) [.ref (a 0), .int x1, .int x2, .int x3, .ref (a 9)] (wd_X5 cI cL cS cH a v_rows v_cols v_high v_wide v_folds v_wrong v_more v_rowOf v_colOf v_below v_face v_worn v_last v_bend v_tall ++ wd_X2 cI cL cS cH (fun k => a (k + 9)) p4_size p4_stepCount p4_draftCount p4_place p4_fault p4_stacked p4_tape p4_steps p4_draft p4_stack) (wd_X5 cI cL cS cH a v_rows v_cols w_high w_wide w_folds w_wrong w_more w_rowOf w_colOf w_below w_face w_worn w_last w_bend w_tall ++ wd_X2 cI cL cS cH (fun k => a (k + 9)) p4_size p4_stepCount p4_draftCount p4_place p4_fault wp4_stacked p4_tape p4_steps p4_draft wp4_stack) (some (.int r)) := by
  refine mm_of (by decide) (Nat.le_of_ble_eq_true rfl) ?_
  intro p e s m args below meth c A H locs ls C0 hP hD hA hS hl
  have C0 : mm_Cx p s m args meth c RX5 cX5_bendAndTurn 7 (some .int) D (mm_T cI cL cS cH) A := C0
  obtain ⟨hx, hb, hml, hown, hts, hr, hlocks, hK, hSt⟩ := id C0
  have hl : lv_has ls 7 [(0, .ref (a 0)), (1, .int x1), (2, .int x2), (3, .int x3), (4, .ref (a 9))] := hl
  unfold fX5_bendAndTurn at hf
  refine lv_aload_n hx hb dX5_bendAndTurn_0 rfl (lv_at hl 0 rfl) ?_
  refine lv_iload_n hx hb dX5_bendAndTurn_1 rfl (lv_at hl 1 rfl) ?_
  refine lv_iload_n hx hb dX5_bendAndTurn_2 rfl (lv_at hl 2 rfl) ?_
  refine lv_iload_n hx hb dX5_bendAndTurn_3 rfl (lv_at hl 3 rfl) ?_
  obtain ⟨r_1, w_2, hc_3, hf⟩ := mm_bd2s hf
  refine mm_callW (q0 := 0) (ci := 5) (w2 := (wd_X5 cI cL cS cH a v_rows v_cols v_high v_wide v_folds v_wrong v_more v_rowOf v_colOf v_below v_face v_worn v_last w_2 v_tall ++ wd_X2 cI cL cS cH (fun k => a (k + 9)) p4_size p4_stepCount p4_draftCount p4_place p4_fault p4_stacked p4_tape p4_steps p4_draft p4_stack)) (rest := []) C0 lk_X5_121 (ctX5_markBends (a := (fun k => a (k + 0))) (d := d - 1) (by omega) hc_3) (by omega) rfl hl.1 rfl (mm_cat rfl) dX5_bendAndTurn_4 hP hD hA hS rfl rfl [true, true, true, true, true, true, true, true, true, false, false, false, false, false] rfl rfl rfl rfl (fun H locs hP hD hS => ?_)
  refine W.eq (g2 := F0 m 7 ls [.int r_1]) rfl ?_
  refine lv_istore (lv' := [(5, .int r_1), (0, .ref (a 0)), (1, .int x1), (2, .int x2), (3, .int x3), (4, .ref (a 9))]) hx hb dX5_bendAndTurn_7 hl (by decide) rfl (fun ls hl => ?_)
  refine lv_iconst (v := 0) hx hb dX5_bendAndTurn_9 (by decide) ?_
  refine lv_istore (lv' := [(6, .int (0 : Int32)), (5, .int r_1), (0, .ref (a 0)), (1, .int x1), (2, .int x2), (3, .int x3), (4, .ref (a 9))]) hx hb dX5_bendAndTurn_10 hl (by decide) rfl (fun ls hl => ?_)
  exact tX5_bendAndTurn_12 hd C0 hA N  N _ _ _ _ _ _ _ _ _ _ _ _ _ _ _ _ _ _ _ _ _ _ _ H locs ls hf hP hD hS (lv_sub hl [2, 3, 4, 6, 1, 0] rfl)

theorem dX6_holdFolding_0 : decode cX6_holdFolding 0 = .ok (.aload_n 0, 1) := by decide +kernel
theorem dX6_holdFolding_1 : decode cX6_holdFolding 1 = .ok (.iconst 1, 1) := by decide +kernel
theorem dX6_holdFolding_2 : decode cX6_holdFolding 2 = .ok (.putfield 15, 3) := by decide +kernel
theorem dX6_holdFolding_5 : decode cX6_holdFolding 5 = .ok (.aload_n 0, 1) := by decide +kernel
theorem dX6_holdFolding_6 : decode cX6_holdFolding 6 = .ok (.iload_n 1, 1) := by decide +kernel
theorem dX6_holdFolding_7 : decode cX6_holdFolding 7 = .ok (.putfield 19, 3) := by decide +kernel
theorem dX6_holdFolding_10 : decode cX6_holdFolding 10 = .ok (.return_, 1) := by decide +kernel
def fX6_holdFolding (N : Nat) (x1 : Int32) (v_holds : Int32) (v_body : Int32) : Option (Int32 × Int32) :=
    some ((1 : Int32), x1)

set_option maxHeartbeats 4000000 in
set_option maxRecDepth 100000 in
theorem ctX6_holdFolding {l : Launch} {D : va_G} {cI cL cS cH : ClassId} {a : Nat → Nat} {x1 : Int32} {v_holds : Int32} {v_body : Int32} {v_sort : Int32} {v_size : Int32} {v_items : List Int64} {w_holds : Int32} {w_body : Int32} {N d : Nat} (hd : 1 ≤ d) (hf : fX6_holdFolding N x1 v_holds v_body = some (w_holds, w_body)) : mm_Ct l yX6_holdFolding cX6_holdFolding 2 none d D (mm_T cI cL cS cH) [.ref (a 0), .int x1] (wd_X6 cI cL cS cH a v_holds v_body v_sort v_size v_items) (wd_X6 cI cL cS cH a w_holds w_body v_sort v_size v_items) none := by
  refine mm_of (by decide) (Nat.le_of_ble_eq_true rfl) ?_
  intro p e s m args below meth c A H locs ls C0 hP hD hA hS hl
  have C0 : mm_Cx p s m args meth c RX6 cX6_holdFolding 2 none D (mm_T cI cL cS cH) A := C0
  obtain ⟨hx, hb, hml, hown, hts, hr, hlocks, hK, hSt⟩ := id C0
  have hl : lv_has ls 2 [(0, .ref (a 0)), (1, .int x1)] := hl
  unfold fX6_holdFolding at hf
  refine lv_aload_n hx hb dX6_holdFolding_0 rfl (lv_at hl 0 rfl) ?_
  refine lv_iconst (v := 1) hx hb dX6_holdFolding_1 (by decide) ?_
  refine mm_put C0 hP hD hS iw_X6 tyX6 tyX6_ok nmX6 0 rfl rfl 0 (by decide) fl_X6_15 rfl rfl rfl (Nat.le_of_ble_eq_true rfl) dX6_holdFolding_2 (w2 := (wd_X6 cI cL cS cH a (1 : Int32) v_body v_sort v_size v_items)) rfl (fun H locs hP hD hS => ?_)
  refine lv_aload_n hx hb dX6_holdFolding_5 rfl (lv_at hl 0 rfl) ?_
  refine lv_iload_n hx hb dX6_holdFolding_6 rfl (lv_at hl 1 rfl) ?_
  refine mm_put C0 hP hD hS iw_X6 tyX6 tyX6_ok nmX6 0 rfl rfl 1 (by decide) fl_X6_19 rfl rfl rfl (Nat.le_of_ble_eq_true rfl) dX6_holdFolding_7 (w2 := (wd_X6 cI cL cS cH a (1 : Int32) x1 v_sort v_size v_items)) rfl (fun H locs hP hD hS => ?_)
  apply mm_sub2 hf
  exact mm_vret C0 hP hD hS dX6_holdFolding_10

theorem dJ7_fill_d0a16_0 : decode cJ7_fill_d0a16 0 = .ok (.iconst 0, 1) := by decide +kernel
theorem dJ7_fill_d0a16_1 : decode cJ7_fill_d0a16 1 = .ok (.istore_n 3, 1) := by decide +kernel
theorem dJ7_fill_d0a16_2 : decode cJ7_fill_d0a16 2 = .ok (.aload_n 0, 1) := by decide +kernel
theorem dJ7_fill_d0a16_3 : decode cJ7_fill_d0a16 3 = .ok (.arraylength, 1) := by decide +kernel
theorem dJ7_fill_d0a16_4 : decode cJ7_fill_d0a16 4 = .ok (.istore 4, 2) := by decide +kernel
theorem dJ7_fill_d0a16_6 : decode cJ7_fill_d0a16 6 = .ok (.iload_n 3, 1) := by decide +kernel
theorem dJ7_fill_d0a16_7 : decode cJ7_fill_d0a16 7 = .ok (.iload 4, 2) := by decide +kernel
theorem dJ7_fill_d0a16_9 : decode cJ7_fill_d0a16 9 = .ok (.if_icmp .ge 13, 3) := by decide +kernel
theorem dJ7_fill_d0a16_12 : decode cJ7_fill_d0a16 12 = .ok (.aload_n 0, 1) := by decide +kernel
theorem dJ7_fill_d0a16_13 : decode cJ7_fill_d0a16 13 = .ok (.iload_n 3, 1) := by decide +kernel
theorem dJ7_fill_d0a16_14 : decode cJ7_fill_d0a16 14 = .ok (.lload_n 1, 1) := by decide +kernel
theorem dJ7_fill_d0a16_15 : decode cJ7_fill_d0a16 15 = .ok (.lastore, 1) := by decide +kernel
theorem dJ7_fill_d0a16_16 : decode cJ7_fill_d0a16 16 = .ok (.iinc 3 1, 3) := by decide +kernel
theorem dJ7_fill_d0a16_19 : decode cJ7_fill_d0a16 19 = .ok (.goto (-13), 3) := by decide +kernel
theorem dJ7_fill_d0a16_22 : decode cJ7_fill_d0a16 22 = .ok (.return_, 1) := by decide +kernel
def fJ7_fill_d0a16_6 (N : Nat)  : Nat → Int64 → Int32 → Int32 → List Int64 → Option (List Int64)
  | 0 => fun _ _ _ _ => none
  | n + 1 => fun x1 x3 x4 p0_row =>
    if x4 ≤ x3 then
    (some (p0_row))
    else (mm_ck (mm_inb x3 p0_row.length) (mm_nm (mm_ls p0_row x3 x1) (fun (l_4 : List Int64) =>
    mm_nm (x3 + (1 : Int32)) (fun (y_5 : Int32) =>
    fJ7_fill_d0a16_6 N n x1 y_5 x4 l_4))))

set_option maxHeartbeats 4000000 in
set_option maxRecDepth 100000 in
theorem tJ7_fill_d0a16_6 {p : Program} {l : Launch} {e : Env} {s : State} {m : MethodId} {args : Array Value} {below : List Frame} {meth : Method} {c : Code} {D : va_G} {cI cL cS cH : ClassId} {A : Nat → Prop} {d : Nat} {a : Nat → Nat} (hd : 1 ≤ d) (C0 : mm_Cx p s m args meth c RJ7 cJ7_fill_d0a16 5 none D (mm_T cI cL cS cH) A) (hA : ∀ q, s.heap.size ≤ q → A q)  {wp0_row : List Int64} (N : Nat)  : ∀ (n : Nat), ∀ (x1 : Int64) (x3 : Int32) (x4 : Int32) (p0_row : List Int64) (H : Heap) (locs : List Loc) (ls : Array Slot), fJ7_fill_d0a16_6 N n x1 x3 x4 p0_row = some wp0_row → va_P D mm_cl ([(a 0, mm_ll cL p0_row)]) H → va_D A ([(a 0, mm_ll cL p0_row)]) → va_S A s.heap H locs → lv_has ls 5 [(0, .ref (a 0)), (1, .long x1), (3, .int x3), (4, .int x4)] → W p l e (mm_rr d) s m args below meth c H locs 0 0 (mm_Z below D A ([(a 0, mm_ll cL wp0_row)]) none args s) (F0 m 6 ls []) := by
  obtain ⟨hx, hb, hml, hown, hts, hr, hlocks, hK, hSt⟩ := id C0
  intro n
  induction n with
  | zero =>
    intro x1 x3 x4 p0_row H locs ls hf
    cases (show none = some _ from hf)
  | succ n ih =>
    intro x1 x3 x4 p0_row H locs ls hf hP hD hS hl
    unfold fJ7_fill_d0a16_6 at hf
    refine lv_iload_n hx hb dJ7_fill_d0a16_6 rfl (lv_at hl 2 rfl) ?_
    refine lv_iload hx hb dJ7_fill_d0a16_7 (lv_at hl 3 rfl) ?_
    refine lv_icmp_ge (tgt := 22) hx hb dJ7_fill_d0a16_9 (by decide) (fun c_2 => ?_) (fun c_2 => ?_)
    · have hf := mm_ip hf c_2
      obtain rfl := mm_inj1 hf
      exact mm_vret C0 hP hD hS dJ7_fill_d0a16_22
    · have hf := mm_in hf c_2
      refine lv_aload_n hx hb dJ7_fill_d0a16_12 rfl (lv_at hl 0 rfl) ?_
      refine lv_iload_n hx hb dJ7_fill_d0a16_13 rfl (lv_at hl 2 rfl) ?_
      refine lv_lload_n hx hb dJ7_fill_d0a16_14 rfl (lv_at hl 1 rfl) ?_
      obtain ⟨h_3, hf⟩ := mm_cks hf
      refine mm_last C0 hP hD hS 0 rfl h_3 dJ7_fill_d0a16_15 (w2 := ([(a 0, mm_ll cL (mm_ls p0_row x3 x1))])) rfl (fun H locs hP hD hS => ?_)
      generalize el_4 : (mm_ls p0_row x3 x1) = l_4 at hP hD
      have hf := mm_nms hf el_4.symm
      obtain ⟨y_5, ey_5⟩ : ∃ z : Int32, z = x3 + (1 : Int32) := ⟨_, rfl⟩
      have hf := mm_nms hf ey_5
      refine lv_iinc (v := y_5) (lv' := [(3, .int y_5), (0, .ref (a 0)), (1, .long x1), (4, .int x4)]) hx hb dJ7_fill_d0a16_16 hl (k := 2) rfl (by rw [ey_5]; rfl) (by decide) rfl (fun ls hl => ?_)
      refine lv_goto (tgt := 6) hx hb dJ7_fill_d0a16_19 (by decide) ?_
      exact ih _ _ _ _ H locs ls hf hP hD hS (lv_sub hl [1, 2, 0, 3] rfl)

def fJ7_fill_d0a16 (N : Nat) (x1 : Int64) (p0_row : List Int64) : Option (List Int64) :=
    mm_nm ((Int32.ofNat p0_row.length)) (fun (y_1 : Int32) =>
    fJ7_fill_d0a16_6 N N x1 (0 : Int32) y_1 p0_row)

set_option maxHeartbeats 4000000 in
set_option maxRecDepth 100000 in
theorem ctJ7_fill_d0a16 {l : Launch} {D : va_G} {cI cL cS cH : ClassId} {a : Nat → Nat} {x1 : Int64} {p0_row : List Int64} {wp0_row : List Int64} {N d : Nat} (hd : 1 ≤ d) (hf : fJ7_fill_d0a16 N x1 p0_row = some wp0_row) : mm_Ct l yJ7_fill_d0a16 cJ7_fill_d0a16 5 none d D (mm_T cI cL cS cH) [.ref (a 0), .long x1] ([(a 0, mm_ll cL p0_row)]) ([(a 0, mm_ll cL wp0_row)]) none := by
  refine mm_of (by decide) (Nat.le_of_ble_eq_true rfl) ?_
  intro p e s m args below meth c A H locs ls C0 hP hD hA hS hl
  have C0 : mm_Cx p s m args meth c RJ7 cJ7_fill_d0a16 5 none D (mm_T cI cL cS cH) A := C0
  obtain ⟨hx, hb, hml, hown, hts, hr, hlocks, hK, hSt⟩ := id C0
  have hl : lv_has ls 5 [(0, .ref (a 0)), (1, .long x1)] := hl
  unfold fJ7_fill_d0a16 at hf
  refine lv_iconst (v := 0) hx hb dJ7_fill_d0a16_0 (by decide) ?_
  refine lv_istore_n (lv' := [(3, .int (0 : Int32)), (0, .ref (a 0)), (1, .long x1)]) hx hb dJ7_fill_d0a16_1 rfl hl (by decide) rfl (fun ls hl => ?_)
  refine lv_aload_n hx hb dJ7_fill_d0a16_2 rfl (lv_at hl 1 rfl) ?_
  refine mm_llen C0 hP 0 rfl dJ7_fill_d0a16_3 ?_
  refine lv_topi (fun y_1 ey_1 => ?_)
  have hf := mm_nms hf ey_1
  refine lv_istore (lv' := [(4, .int y_1), (3, .int (0 : Int32)), (0, .ref (a 0)), (1, .long x1)]) hx hb dJ7_fill_d0a16_4 hl (by decide) rfl (fun ls hl => ?_)
  exact tJ7_fill_d0a16_6 hd C0 hA N  N _ _ _ _ H locs ls hf hP hD hS (lv_sub hl [2, 3, 1, 0] rfl)

theorem dX6_holdRow_0 : decode cX6_holdRow 0 = .ok (.aload_n 0, 1) := by decide +kernel
theorem dX6_holdRow_1 : decode cX6_holdRow 1 = .ok (.iconst 2, 1) := by decide +kernel
theorem dX6_holdRow_2 : decode cX6_holdRow 2 = .ok (.putfield 15, 3) := by decide +kernel
theorem dX6_holdRow_5 : decode cX6_holdRow 5 = .ok (.aload_n 0, 1) := by decide +kernel
theorem dX6_holdRow_6 : decode cX6_holdRow 6 = .ok (.iload_n 1, 1) := by decide +kernel
theorem dX6_holdRow_7 : decode cX6_holdRow 7 = .ok (.putfield 22, 3) := by decide +kernel
theorem dX6_holdRow_10 : decode cX6_holdRow 10 = .ok (.aload_n 0, 1) := by decide +kernel
theorem dX6_holdRow_11 : decode cX6_holdRow 11 = .ok (.iload_n 2, 1) := by decide +kernel
theorem dX6_holdRow_12 : decode cX6_holdRow 12 = .ok (.putfield 25, 3) := by decide +kernel
theorem dX6_holdRow_15 : decode cX6_holdRow 15 = .ok (.aload_n 0, 1) := by decide +kernel
theorem dX6_holdRow_16 : decode cX6_holdRow 16 = .ok (.getfield 9, 3) := by decide +kernel
theorem dX6_holdRow_19 : decode cX6_holdRow 19 = .ok (.lconst 0, 1) := by decide +kernel
theorem dX6_holdRow_20 : decode cX6_holdRow 20 = .ok (.invokestatic 28, 3) := by decide +kernel
theorem dX6_holdRow_23 : decode cX6_holdRow 23 = .ok (.return_, 1) := by decide +kernel
def fX6_holdRow (N : Nat) (x1 : Int32) (x2 : Int32) (v_holds : Int32) (v_sort : Int32) (v_size : Int32) (v_items : List Int64) : Option (Int32 × Int32 × Int32 × List Int64) :=
    mm_bd1 (fJ7_fill_d0a16 N (0 : Int64) v_items) (fun (w_1 : List Int64) =>
    some ((2 : Int32), x1, x2, w_1))

set_option maxHeartbeats 4000000 in
set_option maxRecDepth 100000 in
theorem ctX6_holdRow {l : Launch} {D : va_G} {cI cL cS cH : ClassId} {a : Nat → Nat} {x1 : Int32} {x2 : Int32} {v_holds : Int32} {v_body : Int32} {v_sort : Int32} {v_size : Int32} {v_items : List Int64} {w_holds : Int32} {w_sort : Int32} {w_size : Int32} {w_items : List Int64} {N d : Nat} (hd : 2 ≤ d) (hf : fX6_holdRow N x1 x2 v_holds v_sort v_size v_items = some (w_holds, w_sort, w_size, w_items)) : mm_Ct l yX6_holdRow cX6_holdRow 3 none d D (mm_T cI cL cS cH) [.ref (a 0), .int x1, .int x2] (wd_X6 cI cL cS cH a v_holds v_body v_sort v_size v_items) (wd_X6 cI cL cS cH a w_holds v_body w_sort w_size w_items) none := by
  refine mm_of (by decide) (Nat.le_of_ble_eq_true rfl) ?_
  intro p e s m args below meth c A H locs ls C0 hP hD hA hS hl
  have C0 : mm_Cx p s m args meth c RX6 cX6_holdRow 3 none D (mm_T cI cL cS cH) A := C0
  obtain ⟨hx, hb, hml, hown, hts, hr, hlocks, hK, hSt⟩ := id C0
  have hl : lv_has ls 3 [(0, .ref (a 0)), (1, .int x1), (2, .int x2)] := hl
  unfold fX6_holdRow at hf
  refine lv_aload_n hx hb dX6_holdRow_0 rfl (lv_at hl 0 rfl) ?_
  refine lv_iconst (v := 2) hx hb dX6_holdRow_1 (by decide) ?_
  refine mm_put C0 hP hD hS iw_X6 tyX6 tyX6_ok nmX6 0 rfl rfl 0 (by decide) fl_X6_15 rfl rfl rfl (Nat.le_of_ble_eq_true rfl) dX6_holdRow_2 (w2 := (wd_X6 cI cL cS cH a (2 : Int32) v_body v_sort v_size v_items)) rfl (fun H locs hP hD hS => ?_)
  refine lv_aload_n hx hb dX6_holdRow_5 rfl (lv_at hl 0 rfl) ?_
  refine lv_iload_n hx hb dX6_holdRow_6 rfl (lv_at hl 1 rfl) ?_
  refine mm_put C0 hP hD hS iw_X6 tyX6 tyX6_ok nmX6 0 rfl rfl 2 (by decide) fl_X6_22 rfl rfl rfl (Nat.le_of_ble_eq_true rfl) dX6_holdRow_7 (w2 := (wd_X6 cI cL cS cH a (2 : Int32) v_body x1 v_size v_items)) rfl (fun H locs hP hD hS => ?_)
  refine lv_aload_n hx hb dX6_holdRow_10 rfl (lv_at hl 0 rfl) ?_
  refine lv_iload_n hx hb dX6_holdRow_11 rfl (lv_at hl 2 rfl) ?_
  refine mm_put C0 hP hD hS iw_X6 tyX6 tyX6_ok nmX6 0 rfl rfl 3 (by decide) fl_X6_25 rfl rfl rfl (Nat.le_of_ble_eq_true rfl) dX6_holdRow_12 (w2 := (wd_X6 cI cL cS cH a (2 : Int32) v_body x1 x2 v_items)) rfl (fun H locs hP hD hS => ?_)
  refine lv_aload_n hx hb dX6_holdRow_15 rfl (lv_at hl 0 rfl) ?_
  refine mm_get C0 hP iw_X6 0 rfl rfl 4 (by decide) fl_X6_9 rfl dX6_holdRow_16 ?_
  refine lv_lconst (v := 0) hx hb dX6_holdRow_19 (by decide) ?_
  obtain ⟨w_1, hc_2, hf⟩ := mm_bd1s hf
  refine mm_callT (w2 := (wd_X6 cI cL cS cH a (2 : Int32) v_body x1 x2 w_1)) (rest := []) C0 lk_X6_28 (ctJ7_fill_d0a16 (a := (fun k => a (k + 1))) (d := d - 1) (by omega) hc_2) (by omega) rfl hl.1 rfl (mm_cat rfl) dX6_holdRow_20 hP hD hA hS [false, true] rfl rfl rfl rfl (fun H locs hP hD hS => ?_)
  refine W.eq (g2 := F0 m 23 ls []) rfl ?_
  apply mm_sub4 hf
  exact mm_vret C0 hP hD hS dX6_holdRow_23

theorem dX6_hasPart_0 : decode cX6_hasPart 0 = .ok (.iload_n 1, 1) := by decide +kernel
theorem dX6_hasPart_1 : decode cX6_hasPart 1 = .ok (.ifCond .lt 25, 3) := by decide +kernel
theorem dX6_hasPart_4 : decode cX6_hasPart 4 = .ok (.iload_n 1, 1) := by decide +kernel
theorem dX6_hasPart_5 : decode cX6_hasPart 5 = .ok (.aload_n 0, 1) := by decide +kernel
theorem dX6_hasPart_6 : decode cX6_hasPart 6 = .ok (.getfield 25, 3) := by decide +kernel
theorem dX6_hasPart_9 : decode cX6_hasPart 9 = .ok (.if_icmp .gt 17, 3) := by decide +kernel
theorem dX6_hasPart_12 : decode cX6_hasPart 12 = .ok (.iload_n 2, 1) := by decide +kernel
theorem dX6_hasPart_13 : decode cX6_hasPart 13 = .ok (.aload_n 0, 1) := by decide +kernel
theorem dX6_hasPart_14 : decode cX6_hasPart 14 = .ok (.getfield 25, 3) := by decide +kernel
theorem dX6_hasPart_17 : decode cX6_hasPart 17 = .ok (.iload_n 1, 1) := by decide +kernel
theorem dX6_hasPart_18 : decode cX6_hasPart 18 = .ok (.isub, 1) := by decide +kernel
theorem dX6_hasPart_19 : decode cX6_hasPart 19 = .ok (.if_icmp .gt 7, 3) := by decide +kernel
theorem dX6_hasPart_22 : decode cX6_hasPart 22 = .ok (.iconst 1, 1) := by decide +kernel
theorem dX6_hasPart_23 : decode cX6_hasPart 23 = .ok (.goto 4, 3) := by decide +kernel
theorem dX6_hasPart_26 : decode cX6_hasPart 26 = .ok (.iconst 0, 1) := by decide +kernel
theorem dX6_hasPart_27 : decode cX6_hasPart 27 = .ok (.ireturn, 1) := by decide +kernel
def fX6_hasPart (N : Nat) (x1 : Int32) (x2 : Int32) (v_size : Int32) : Option (Bool) :=
    if x1 < 0 then
    (some (false))
    else (if v_size < x1 then
    (some (false))
    else (if (v_size - x1) < x2 then
    (some (false))
    else (some (true))))

set_option maxHeartbeats 4000000 in
set_option maxRecDepth 100000 in
theorem ctX6_hasPart {l : Launch} {D : va_G} {cI cL cS cH : ClassId} {a : Nat → Nat} {x1 : Int32} {x2 : Int32} {v_holds : Int32} {v_body : Int32} {v_sort : Int32} {v_size : Int32} {v_items : List Int64} {r : Bool} {N d : Nat} (hd : 1 ≤ d) (hf : fX6_hasPart N x1 x2 v_size = some r) : mm_Ct l yX6_hasPart cX6_hasPart 3 (some .boolean) d D (mm_T cI cL cS cH) [.ref (a 0), .int x1, .int x2] (wd_X6 cI cL cS cH a v_holds v_body v_sort v_size v_items) (wd_X6 cI cL cS cH a v_holds v_body v_sort v_size v_items) (some (.int (mm_b r))) := by
  refine mm_of (by decide) (Nat.le_of_ble_eq_true rfl) ?_
  intro p e s m args below meth c A H locs ls C0 hP hD hA hS hl
  have C0 : mm_Cx p s m args meth c RX6 cX6_hasPart 3 (some .boolean) D (mm_T cI cL cS cH) A := C0
  obtain ⟨hx, hb, hml, hown, hts, hr, hlocks, hK, hSt⟩ := id C0
  have hl : lv_has ls 3 [(0, .ref (a 0)), (1, .int x1), (2, .int x2)] := hl
  unfold fX6_hasPart at hf
  refine lv_iload_n hx hb dX6_hasPart_0 rfl (lv_at hl 1 rfl) ?_
  refine lv_if_lt (tgt := 26) hx hb dX6_hasPart_1 (by decide) (fun c_1 => ?_) (fun c_1 => ?_)
  · have hf := mm_ip hf c_1
    refine lv_iconst (v := 0) hx hb dX6_hasPart_26 (by decide) ?_
    obtain rfl := mm_inj1 hf
    exact mm_zret (v := false) C0 hP hD hS dX6_hasPart_27 (by decide)
  · have hf := mm_in hf c_1
    refine lv_iload_n hx hb dX6_hasPart_4 rfl (lv_at hl 1 rfl) ?_
    refine lv_aload_n hx hb dX6_hasPart_5 rfl (lv_at hl 0 rfl) ?_
    refine mm_get C0 hP iw_X6 0 rfl rfl 3 (by decide) fl_X6_25 rfl dX6_hasPart_6 ?_
    refine lv_icmp_gt (tgt := 26) hx hb dX6_hasPart_9 (by decide) (fun c_2 => ?_) (fun c_2 => ?_)
    · have hf := mm_ip hf c_2
      refine lv_iconst (v := 0) hx hb dX6_hasPart_26 (by decide) ?_
      obtain rfl := mm_inj1 hf
      exact mm_zret (v := false) C0 hP hD hS dX6_hasPart_27 (by decide)
    · have hf := mm_in hf c_2
      refine lv_iload_n hx hb dX6_hasPart_12 rfl (lv_at hl 2 rfl) ?_
      refine lv_aload_n hx hb dX6_hasPart_13 rfl (lv_at hl 0 rfl) ?_
      refine mm_get C0 hP iw_X6 0 rfl rfl 3 (by decide) fl_X6_25 rfl dX6_hasPart_14 ?_
      refine lv_iload_n hx hb dX6_hasPart_17 rfl (lv_at hl 1 rfl) ?_
      refine lv_isub hx hb dX6_hasPart_18 ?_
      refine lv_icmp_gt (tgt := 26) hx hb dX6_hasPart_19 (by decide) (fun c_3 => ?_) (fun c_3 => ?_)
      · have hf := mm_ip hf c_3
        refine lv_iconst (v := 0) hx hb dX6_hasPart_26 (by decide) ?_
        obtain rfl := mm_inj1 hf
        exact mm_zret (v := false) C0 hP hD hS dX6_hasPart_27 (by decide)
      · have hf := mm_in hf c_3
        refine lv_iconst (v := 1) hx hb dX6_hasPart_22 (by decide) ?_
        refine lv_goto (tgt := 27) hx hb dX6_hasPart_23 (by decide) ?_
        obtain rfl := mm_inj1 hf
        exact mm_zret (v := true) C0 hP hD hS dX6_hasPart_27 (by decide)

theorem dX6_lowestBits_0 : decode cX6_lowestBits 0 = .ok (.aload_n 0, 1) := by decide +kernel
theorem dX6_lowestBits_1 : decode cX6_lowestBits 1 = .ok (.getfield 22, 3) := by decide +kernel
theorem dX6_lowestBits_4 : decode cX6_lowestBits 4 = .ok (.tableswitch 48 0 3 #[32, 37, 42, 46], 32) := by decide +kernel
theorem dX6_lowestBits_36 : decode cX6_lowestBits 36 = .ok (.lload_n 1, 1) := by decide +kernel
theorem dX6_lowestBits_37 : decode cX6_lowestBits 37 = .ok (.l2i, 1) := by decide +kernel
theorem dX6_lowestBits_38 : decode cX6_lowestBits 38 = .ok (.i2b, 1) := by decide +kernel
theorem dX6_lowestBits_39 : decode cX6_lowestBits 39 = .ok (.i2l, 1) := by decide +kernel
theorem dX6_lowestBits_40 : decode cX6_lowestBits 40 = .ok (.lreturn, 1) := by decide +kernel
theorem dX6_lowestBits_41 : decode cX6_lowestBits 41 = .ok (.lload_n 1, 1) := by decide +kernel
theorem dX6_lowestBits_42 : decode cX6_lowestBits 42 = .ok (.l2i, 1) := by decide +kernel
theorem dX6_lowestBits_43 : decode cX6_lowestBits 43 = .ok (.i2s, 1) := by decide +kernel
theorem dX6_lowestBits_44 : decode cX6_lowestBits 44 = .ok (.i2l, 1) := by decide +kernel
theorem dX6_lowestBits_45 : decode cX6_lowestBits 45 = .ok (.lreturn, 1) := by decide +kernel
theorem dX6_lowestBits_46 : decode cX6_lowestBits 46 = .ok (.lload_n 1, 1) := by decide +kernel
theorem dX6_lowestBits_47 : decode cX6_lowestBits 47 = .ok (.l2i, 1) := by decide +kernel
theorem dX6_lowestBits_48 : decode cX6_lowestBits 48 = .ok (.i2l, 1) := by decide +kernel
theorem dX6_lowestBits_49 : decode cX6_lowestBits 49 = .ok (.lreturn, 1) := by decide +kernel
theorem dX6_lowestBits_50 : decode cX6_lowestBits 50 = .ok (.lload_n 1, 1) := by decide +kernel
theorem dX6_lowestBits_51 : decode cX6_lowestBits 51 = .ok (.lreturn, 1) := by decide +kernel
theorem dX6_lowestBits_52 : decode cX6_lowestBits 52 = .ok (.lload_n 1, 1) := by decide +kernel
theorem dX6_lowestBits_53 : decode cX6_lowestBits 53 = .ok (.lconst 0, 1) := by decide +kernel
theorem dX6_lowestBits_54 : decode cX6_lowestBits 54 = .ok (.lcmp, 1) := by decide +kernel
theorem dX6_lowestBits_55 : decode cX6_lowestBits 55 = .ok (.ifCond .eq 7, 3) := by decide +kernel
theorem dX6_lowestBits_58 : decode cX6_lowestBits 58 = .ok (.lconst 1, 1) := by decide +kernel
theorem dX6_lowestBits_59 : decode cX6_lowestBits 59 = .ok (.goto 4, 3) := by decide +kernel
theorem dX6_lowestBits_62 : decode cX6_lowestBits 62 = .ok (.lconst 0, 1) := by decide +kernel
theorem dX6_lowestBits_63 : decode cX6_lowestBits 63 = .ok (.lreturn, 1) := by decide +kernel
def fX6_lowestBits (N : Nat) (x1 : Int64) (v_sort : Int32) : Option (Int64) :=
    if v_sort = (0 : Int32) then
    (some ((((x1.toInt32).toInt8.toInt32).toInt64)))
    else (if v_sort = (1 : Int32) then
    (some ((((x1.toInt32).toInt16.toInt32).toInt64)))
    else (if v_sort = (2 : Int32) then
    (some (((x1.toInt32).toInt64)))
    else (if v_sort = (3 : Int32) then
    (some (x1))
    else (if (lg_cmp x1 (0 : Int64)) = 0 then
    (some ((0 : Int64)))
    else (some ((1 : Int64)))))))

set_option maxHeartbeats 4000000 in
set_option maxRecDepth 100000 in
theorem ctX6_lowestBits {l : Launch} {D : va_G} {cI cL cS cH : ClassId} {a : Nat → Nat} {x1 : Int64} {v_holds : Int32} {v_body : Int32} {v_sort : Int32} {v_size : Int32} {v_items : List Int64} {r : Int64} {N d : Nat} (hd : 1 ≤ d) (hf : fX6_lowestBits N x1 v_sort = some r) : mm_Ct l yX6_lowestBits cX6_lowestBits 3 (some .long) d D (mm_T cI cL cS cH) [.ref (a 0), .long x1] (wd_X6 cI cL cS cH a v_holds v_body v_sort v_size v_items) (wd_X6 cI cL cS cH a v_holds v_body v_sort v_size v_items) (some (.long r)) := by
  refine mm_of (by decide) (Nat.le_of_ble_eq_true rfl) ?_
  intro p e s m args below meth c A H locs ls C0 hP hD hA hS hl
  have C0 : mm_Cx p s m args meth c RX6 cX6_lowestBits 3 (some .long) D (mm_T cI cL cS cH) A := C0
  obtain ⟨hx, hb, hml, hown, hts, hr, hlocks, hK, hSt⟩ := id C0
  have hl : lv_has ls 3 [(0, .ref (a 0)), (1, .long x1)] := hl
  unfold fX6_lowestBits at hf
  refine lv_aload_n hx hb dX6_lowestBits_0 rfl (lv_at hl 0 rfl) ?_
  refine mm_get C0 hP iw_X6 0 rfl rfl 2 (by decide) fl_X6_22 rfl dX6_lowestBits_1 ?_
  by_cases c_1 : v_sort = (0 : Int32)
  · have hf := mm_ip hf c_1
    refine lv_tableIn (off := 32) (tgt := 36) hx hb dX6_lowestBits_4 (by rw [c_1]; decide) (by rw [c_1]; decide) (by rw [c_1]; first | done | rfl) (by decide) ?_
    refine lv_lload_n hx hb dX6_lowestBits_36 rfl (lv_at hl 1 rfl) ?_
    refine lv_l2i hx hb dX6_lowestBits_37 rfl ?_
    refine lv_i2b hx hb dX6_lowestBits_38 rfl ?_
    refine lv_i2l hx hb dX6_lowestBits_39 rfl ?_
    obtain rfl := mm_inj1 hf
    exact mm_lret C0 hP hD hS dX6_lowestBits_40
  · have hf := mm_in hf c_1
    by_cases c_2 : v_sort = (1 : Int32)
    · have hf := mm_ip hf c_2
      refine lv_tableIn (off := 37) (tgt := 41) hx hb dX6_lowestBits_4 (by rw [c_2]; decide) (by rw [c_2]; decide) (by rw [c_2]; first | done | rfl) (by decide) ?_
      refine lv_lload_n hx hb dX6_lowestBits_41 rfl (lv_at hl 1 rfl) ?_
      refine lv_l2i hx hb dX6_lowestBits_42 rfl ?_
      refine lv_i2s hx hb dX6_lowestBits_43 rfl ?_
      refine lv_i2l hx hb dX6_lowestBits_44 rfl ?_
      obtain rfl := mm_inj1 hf
      exact mm_lret C0 hP hD hS dX6_lowestBits_45
    · have hf := mm_in hf c_2
      by_cases c_3 : v_sort = (2 : Int32)
      · have hf := mm_ip hf c_3
        refine lv_tableIn (off := 42) (tgt := 46) hx hb dX6_lowestBits_4 (by rw [c_3]; decide) (by rw [c_3]; decide) (by rw [c_3]; first | done | rfl) (by decide) ?_
        refine lv_lload_n hx hb dX6_lowestBits_46 rfl (lv_at hl 1 rfl) ?_
        refine lv_l2i hx hb dX6_lowestBits_47 rfl ?_
        refine lv_i2l hx hb dX6_lowestBits_48 rfl ?_
        obtain rfl := mm_inj1 hf
        exact mm_lret C0 hP hD hS dX6_lowestBits_49
      · have hf := mm_in hf c_3
        by_cases c_4 : v_sort = (3 : Int32)
        · have hf := mm_ip hf c_4
          refine lv_tableIn (off := 46) (tgt := 50) hx hb dX6_lowestBits_4 (by rw [c_4]; decide) (by rw [c_4]; decide) (by rw [c_4]; first | done | rfl) (by decide) ?_
          refine lv_lload_n hx hb dX6_lowestBits_50 rfl (lv_at hl 1 rfl) ?_
          obtain rfl := mm_inj1 hf
          exact mm_lret C0 hP hD hS dX6_lowestBits_51
        · have hf := mm_in hf c_4
          refine lv_tableOut (tgt := 52) hx hb dX6_lowestBits_4 (by have nc_1 := lv_neT c_1 (a := 0) (by decide); have nc_2 := lv_neT c_2 (a := 1) (by decide); have nc_3 := lv_neT c_3 (a := 2) (by decide); have nc_4 := lv_neT c_4 (a := 3) (by decide); omega) (by decide) ?_
          refine lv_lload_n hx hb dX6_lowestBits_52 rfl (lv_at hl 1 rfl) ?_
          refine lv_lconst (v := 0) hx hb dX6_lowestBits_53 (by decide) ?_
          refine W.lcmp hx hb dX6_lowestBits_54 ?_
          refine lv_if_eq (tgt := 62) hx hb dX6_lowestBits_55 (by decide) (fun c_5 => ?_) (fun c_5 => ?_)
          · have hf := mm_ip hf c_5
            refine lv_lconst (v := 0) hx hb dX6_lowestBits_62 (by decide) ?_
            obtain rfl := mm_inj1 hf
            exact mm_lret C0 hP hD hS dX6_lowestBits_63
          · have hf := mm_in hf c_5
            refine lv_lconst (v := 1) hx hb dX6_lowestBits_58 (by decide) ?_
            refine lv_goto (tgt := 63) hx hb dX6_lowestBits_59 (by decide) ?_
            obtain rfl := mm_inj1 hf
            exact mm_lret C0 hP hD hS dX6_lowestBits_63

theorem dX6_store_0 : decode cX6_store 0 = .ok (.aload_n 0, 1) := by decide +kernel
theorem dX6_store_1 : decode cX6_store 1 = .ok (.getfield 9, 3) := by decide +kernel
theorem dX6_store_4 : decode cX6_store 4 = .ok (.iload_n 1, 1) := by decide +kernel
theorem dX6_store_5 : decode cX6_store 5 = .ok (.aload_n 0, 1) := by decide +kernel
theorem dX6_store_6 : decode cX6_store 6 = .ok (.lload_n 2, 1) := by decide +kernel
theorem dX6_store_7 : decode cX6_store 7 = .ok (.invokevirtual 34, 3) := by decide +kernel
theorem dX6_store_10 : decode cX6_store 10 = .ok (.lastore, 1) := by decide +kernel
theorem dX6_store_11 : decode cX6_store 11 = .ok (.return_, 1) := by decide +kernel
def fX6_store (N : Nat) (x1 : Int32) (x2 : Int64) (v_sort : Int32) (v_items : List Int64) : Option (List Int64) :=
    mm_bd1 (fX6_lowestBits N x2 v_sort) (fun (r_1 : Int64) =>
    mm_ck (mm_inb x1 v_items.length) (mm_nm (mm_ls v_items x1 r_1) (fun (l_4 : List Int64) =>
    some (l_4))))

set_option maxHeartbeats 4000000 in
set_option maxRecDepth 100000 in
theorem ctX6_store {l : Launch} {D : va_G} {cI cL cS cH : ClassId} {a : Nat → Nat} {x1 : Int32} {x2 : Int64} {v_holds : Int32} {v_body : Int32} {v_sort : Int32} {v_size : Int32} {v_items : List Int64} {w_items : List Int64} {N d : Nat} (hd : 2 ≤ d) (hf : fX6_store N x1 x2 v_sort v_items = some w_items) : mm_Ct l yX6_store cX6_store 4 none d D (mm_T cI cL cS cH) [.ref (a 0), .int x1, .long x2] (wd_X6 cI cL cS cH a v_holds v_body v_sort v_size v_items) (wd_X6 cI cL cS cH a v_holds v_body v_sort v_size w_items) none := by
  refine mm_of (by decide) (Nat.le_of_ble_eq_true rfl) ?_
  intro p e s m args below meth c A H locs ls C0 hP hD hA hS hl
  have C0 : mm_Cx p s m args meth c RX6 cX6_store 4 none D (mm_T cI cL cS cH) A := C0
  obtain ⟨hx, hb, hml, hown, hts, hr, hlocks, hK, hSt⟩ := id C0
  have hl : lv_has ls 4 [(0, .ref (a 0)), (1, .int x1), (2, .long x2)] := hl
  unfold fX6_store at hf
  refine lv_aload_n hx hb dX6_store_0 rfl (lv_at hl 0 rfl) ?_
  refine mm_get C0 hP iw_X6 0 rfl rfl 4 (by decide) fl_X6_9 rfl dX6_store_1 ?_
  refine lv_iload_n hx hb dX6_store_4 rfl (lv_at hl 1 rfl) ?_
  refine lv_aload_n hx hb dX6_store_5 rfl (lv_at hl 0 rfl) ?_
  refine lv_lload_n hx hb dX6_store_6 rfl (lv_at hl 2 rfl) ?_
  obtain ⟨r_1, hc_2, hf⟩ := mm_bd1s hf
  refine mm_callVF (q0 := 0) (ci := 6) (rest := [.int x1, .ref (a 1)]) C0 lk_X6_34 (ctX6_lowestBits (a := a) (d := d - 1) (by omega) hc_2) (by omega) rfl hl.1 rfl (mm_cat rfl) dX6_store_7 hP hD hA hS rfl rfl (fun H locs hP hD hS => ?_)
  refine W.eq (g2 := F0 m 10 ls [.long r_1, .int x1, .ref (a 1)]) rfl ?_
  obtain ⟨h_3, hf⟩ := mm_cks hf
  refine mm_last C0 hP hD hS 1 rfl h_3 dX6_store_10 (w2 := (wd_X6 cI cL cS cH a v_holds v_body v_sort v_size (mm_ls v_items x1 r_1))) rfl (fun H locs hP hD hS => ?_)
  generalize el_4 : (mm_ls v_items x1 r_1) = l_4 at hP hD
  have hf := mm_nms hf el_4.symm
  obtain rfl := mm_inj1 hf
  exact mm_vret C0 hP hD hS dX6_store_11

theorem dX7_lay_0 : decode cX7_lay 0 = .ok (.aload_n 0, 1) := by decide +kernel
theorem dX7_lay_1 : decode cX7_lay 1 = .ok (.getfield 18, 3) := by decide +kernel
theorem dX7_lay_4 : decode cX7_lay 4 = .ok (.iconst (-1), 1) := by decide +kernel
theorem dX7_lay_5 : decode cX7_lay 5 = .ok (.invokestatic 21, 3) := by decide +kernel
theorem dX7_lay_8 : decode cX7_lay 8 = .ok (.iload_n 2, 1) := by decide +kernel
theorem dX7_lay_9 : decode cX7_lay 9 = .ok (.istore_n 3, 1) := by decide +kernel
theorem dX7_lay_10 : decode cX7_lay 10 = .ok (.iload_n 1, 1) := by decide +kernel
theorem dX7_lay_11 : decode cX7_lay 11 = .ok (.iconst 1, 1) := by decide +kernel
theorem dX7_lay_12 : decode cX7_lay 12 = .ok (.isub, 1) := by decide +kernel
theorem dX7_lay_13 : decode cX7_lay 13 = .ok (.istore 4, 2) := by decide +kernel
theorem dX7_lay_15 : decode cX7_lay 15 = .ok (.iload 4, 2) := by decide +kernel
theorem dX7_lay_17 : decode cX7_lay 17 = .ok (.ifCond .lt 54, 3) := by decide +kernel
theorem dX7_lay_20 : decode cX7_lay 20 = .ok (.iload_n 3, 1) := by decide +kernel
theorem dX7_lay_21 : decode cX7_lay 21 = .ok (.bipush 10, 2) := by decide +kernel
theorem dX7_lay_23 : decode cX7_lay 23 = .ok (.irem, 1) := by decide +kernel
theorem dX7_lay_24 : decode cX7_lay 24 = .ok (.iconst 1, 1) := by decide +kernel
theorem dX7_lay_25 : decode cX7_lay 25 = .ok (.isub, 1) := by decide +kernel
theorem dX7_lay_26 : decode cX7_lay 26 = .ok (.istore 5, 2) := by decide +kernel
theorem dX7_lay_28 : decode cX7_lay 28 = .ok (.iload 5, 2) := by decide +kernel
theorem dX7_lay_30 : decode cX7_lay 30 = .ok (.ifCond .lt 19, 3) := by decide +kernel
theorem dX7_lay_33 : decode cX7_lay 33 = .ok (.iload 5, 2) := by decide +kernel
theorem dX7_lay_35 : decode cX7_lay 35 = .ok (.iload_n 1, 1) := by decide +kernel
theorem dX7_lay_36 : decode cX7_lay 36 = .ok (.if_icmp .ge 13, 3) := by decide +kernel
theorem dX7_lay_39 : decode cX7_lay 39 = .ok (.aload_n 0, 1) := by decide +kernel
theorem dX7_lay_40 : decode cX7_lay 40 = .ok (.getfield 18, 3) := by decide +kernel
theorem dX7_lay_43 : decode cX7_lay 43 = .ok (.iload 5, 2) := by decide +kernel
theorem dX7_lay_45 : decode cX7_lay 45 = .ok (.iaload, 1) := by decide +kernel
theorem dX7_lay_46 : decode cX7_lay 46 = .ok (.ifCond .lt 5, 3) := by decide +kernel
theorem dX7_lay_49 : decode cX7_lay 49 = .ok (.iconst 0, 1) := by decide +kernel
theorem dX7_lay_50 : decode cX7_lay 50 = .ok (.ireturn, 1) := by decide +kernel
theorem dX7_lay_51 : decode cX7_lay 51 = .ok (.aload_n 0, 1) := by decide +kernel
theorem dX7_lay_52 : decode cX7_lay 52 = .ok (.getfield 18, 3) := by decide +kernel
theorem dX7_lay_55 : decode cX7_lay 55 = .ok (.iload 5, 2) := by decide +kernel
theorem dX7_lay_57 : decode cX7_lay 57 = .ok (.iload 4, 2) := by decide +kernel
theorem dX7_lay_59 : decode cX7_lay 59 = .ok (.iastore, 1) := by decide +kernel
theorem dX7_lay_60 : decode cX7_lay 60 = .ok (.iload_n 3, 1) := by decide +kernel
theorem dX7_lay_61 : decode cX7_lay 61 = .ok (.bipush 10, 2) := by decide +kernel
theorem dX7_lay_63 : decode cX7_lay 63 = .ok (.idiv, 1) := by decide +kernel
theorem dX7_lay_64 : decode cX7_lay 64 = .ok (.istore_n 3, 1) := by decide +kernel
theorem dX7_lay_65 : decode cX7_lay 65 = .ok (.iinc 4 (-1), 3) := by decide +kernel
theorem dX7_lay_68 : decode cX7_lay 68 = .ok (.goto (-53), 3) := by decide +kernel
theorem dX7_lay_71 : decode cX7_lay 71 = .ok (.iload_n 3, 1) := by decide +kernel
theorem dX7_lay_72 : decode cX7_lay 72 = .ok (.ifCond .ne 7, 3) := by decide +kernel
theorem dX7_lay_75 : decode cX7_lay 75 = .ok (.iconst 1, 1) := by decide +kernel
theorem dX7_lay_76 : decode cX7_lay 76 = .ok (.goto 4, 3) := by decide +kernel
theorem dX7_lay_79 : decode cX7_lay 79 = .ok (.iconst 0, 1) := by decide +kernel
theorem dX7_lay_80 : decode cX7_lay 80 = .ok (.ireturn, 1) := by decide +kernel
def fX7_lay_15 (N : Nat)  : Nat → Int32 → Int32 → Int32 → List Int32 → Option (Bool × List Int32)
  | 0 => fun _ _ _ _ => none
  | n + 1 => fun x1 x3 x4 v_at =>
    if x4 < 0 then
    (if x3 = 0 then
    (some (true, v_at))
    else (some (false, v_at)))
    else (mm_ck (mm_nz (10 : Int32)) (mm_nm (((mm_rem x3 (10 : Int32)) - (1 : Int32))) (fun (y_7 : Int32) =>
    if y_7 < 0 then
    (some (false, v_at))
    else (if x1 ≤ y_7 then
    (some (false, v_at))
    else (mm_ck (mm_inb y_7 v_at.length) (if (mm_ig v_at y_7) < 0 then
    (mm_ck (mm_inb y_7 v_at.length) (mm_nm (mm_is v_at y_7 x4) (fun (l_13 : List Int32) =>
    mm_ck (mm_nz (10 : Int32)) (mm_nm ((x3 / (10 : Int32))) (fun (y_15 : Int32) =>
    mm_nm (x4 + (-1 : Int32)) (fun (y_16 : Int32) =>
    fX7_lay_15 N n x1 y_15 y_16 l_13))))))
    else (some (false, v_at))))))))

set_option maxHeartbeats 4000000 in
set_option maxRecDepth 100000 in
theorem tX7_lay_15 {p : Program} {l : Launch} {e : Env} {s : State} {m : MethodId} {args : Array Value} {below : List Frame} {meth : Method} {c : Code} {D : va_G} {cI cL cS cH : ClassId} {A : Nat → Prop} {d : Nat} {a : Nat → Nat} (hd : 2 ≤ d) (C0 : mm_Cx p s m args meth c RX7 cX7_lay 6 (some .boolean) D (mm_T cI cL cS cH) A) (hA : ∀ q, s.heap.size ≤ q → A q) {v_list : List Int32} {v_found : List Int32} {r : Bool} {w_at : List Int32} (N : Nat)  : ∀ (n : Nat), ∀ (x1 : Int32) (x3 : Int32) (x4 : Int32) (v_at : List Int32) (H : Heap) (locs : List Loc) (ls : Array Slot), fX7_lay_15 N n x1 x3 x4 v_at = some (r, w_at) → va_P D mm_cl (wd_X7 cI cL cS cH a v_list v_found v_at) H → va_D A (wd_X7 cI cL cS cH a v_list v_found v_at) → va_S A s.heap H locs → lv_has ls 6 [(0, .ref (a 0)), (1, .int x1), (3, .int x3), (4, .int x4)] → W p l e (mm_rr d) s m args below meth c H locs 0 0 (mm_Z below D A (wd_X7 cI cL cS cH a v_list v_found w_at) (some (.int (mm_b r))) args s) (F0 m 15 ls []) := by
  obtain ⟨hx, hb, hml, hown, hts, hr, hlocks, hK, hSt⟩ := id C0
  intro n
  induction n with
  | zero =>
    intro x1 x3 x4 v_at H locs ls hf
    cases (show none = some _ from hf)
  | succ n ih =>
    intro x1 x3 x4 v_at H locs ls hf hP hD hS hl
    unfold fX7_lay_15 at hf
    refine lv_iload hx hb dX7_lay_15 (lv_at hl 3 rfl) ?_
    refine lv_if_lt (tgt := 71) hx hb dX7_lay_17 (by decide) (fun c_4 => ?_) (fun c_4 => ?_)
    · have hf := mm_ip hf c_4
      refine lv_iload_n hx hb dX7_lay_71 rfl (lv_at hl 2 rfl) ?_
      refine lv_if_ne (tgt := 79) hx hb dX7_lay_72 (by decide) (fun c_5 => ?_) (fun c_5 => ?_)
      · have hf := mm_in hf c_5
        refine lv_iconst (v := 0) hx hb dX7_lay_79 (by decide) ?_
        apply mm_sub2 hf
        exact mm_zret (v := false) C0 hP hD hS dX7_lay_80 (by decide)
      · have hf := mm_ip hf c_5
        refine lv_iconst (v := 1) hx hb dX7_lay_75 (by decide) ?_
        refine lv_goto (tgt := 80) hx hb dX7_lay_76 (by decide) ?_
        apply mm_sub2 hf
        exact mm_zret (v := true) C0 hP hD hS dX7_lay_80 (by decide)
    · have hf := mm_in hf c_4
      refine lv_iload_n hx hb dX7_lay_20 rfl (lv_at hl 2 rfl) ?_
      refine lv_bipush (v := 10) hx hb dX7_lay_21 (by decide) ?_
      obtain ⟨h_6, hf⟩ := mm_cks hf
      refine lv_irem hx hb dX7_lay_23 (mm_nzs h_6) ?_
      refine lv_iconst (v := 1) hx hb dX7_lay_24 (by decide) ?_
      refine lv_isub hx hb dX7_lay_25 ?_
      refine lv_topi (fun y_7 ey_7 => ?_)
      have hf := mm_nms hf ey_7
      refine lv_istore (lv' := [(5, .int y_7), (0, .ref (a 0)), (1, .int x1), (3, .int x3), (4, .int x4)]) hx hb dX7_lay_26 hl (by decide) rfl (fun ls hl => ?_)
      refine lv_iload hx hb dX7_lay_28 (lv_at hl 0 rfl) ?_
      refine lv_if_lt (tgt := 49) hx hb dX7_lay_30 (by decide) (fun c_8 => ?_) (fun c_8 => ?_)
      · have hf := mm_ip hf c_8
        refine lv_iconst (v := 0) hx hb dX7_lay_49 (by decide) ?_
        apply mm_sub2 hf
        exact mm_zret (v := false) C0 hP hD hS dX7_lay_50 (by decide)
      · have hf := mm_in hf c_8
        refine lv_iload hx hb dX7_lay_33 (lv_at hl 0 rfl) ?_
        refine lv_iload_n hx hb dX7_lay_35 rfl (lv_at hl 2 rfl) ?_
        refine lv_icmp_ge (tgt := 49) hx hb dX7_lay_36 (by decide) (fun c_9 => ?_) (fun c_9 => ?_)
        · have hf := mm_ip hf c_9
          refine lv_iconst (v := 0) hx hb dX7_lay_49 (by decide) ?_
          apply mm_sub2 hf
          exact mm_zret (v := false) C0 hP hD hS dX7_lay_50 (by decide)
        · have hf := mm_in hf c_9
          refine lv_aload_n hx hb dX7_lay_39 rfl (lv_at hl 1 rfl) ?_
          refine mm_get C0 hP iw_X7 0 rfl rfl 2 (by decide) fl_X7_18 rfl dX7_lay_40 ?_
          refine lv_iload hx hb dX7_lay_43 (lv_at hl 0 rfl) ?_
          obtain ⟨h_10, hf⟩ := mm_cks hf
          refine mm_iald C0 hP 3 rfl h_10 dX7_lay_45 ?_
          refine lv_if_lt (tgt := 51) hx hb dX7_lay_46 (by decide) (fun c_11 => ?_) (fun c_11 => ?_)
          · have hf := mm_ip hf c_11
            refine lv_aload_n hx hb dX7_lay_51 rfl (lv_at hl 1 rfl) ?_
            refine mm_get C0 hP iw_X7 0 rfl rfl 2 (by decide) fl_X7_18 rfl dX7_lay_52 ?_
            refine lv_iload hx hb dX7_lay_55 (lv_at hl 0 rfl) ?_
            refine lv_iload hx hb dX7_lay_57 (lv_at hl 4 rfl) ?_
            obtain ⟨h_12, hf⟩ := mm_cks hf
            refine mm_iast C0 hP hD hS 3 rfl h_12 dX7_lay_59 (w2 := (wd_X7 cI cL cS cH a v_list v_found (mm_is v_at y_7 x4))) rfl (fun H locs hP hD hS => ?_)
            generalize el_13 : (mm_is v_at y_7 x4) = l_13 at hP hD
            have hf := mm_nms hf el_13.symm
            refine lv_iload_n hx hb dX7_lay_60 rfl (lv_at hl 3 rfl) ?_
            refine lv_bipush (v := 10) hx hb dX7_lay_61 (by decide) ?_
            obtain ⟨h_14, hf⟩ := mm_cks hf
            refine lv_idiv hx hb dX7_lay_63 (mm_nzs h_14) ?_
            refine lv_topi (fun y_15 ey_15 => ?_)
            have hf := mm_nms hf ey_15
            refine lv_istore_n (lv' := [(3, .int y_15), (5, .int y_7), (0, .ref (a 0)), (1, .int x1), (4, .int x4)]) hx hb dX7_lay_64 rfl hl (by decide) rfl (fun ls hl => ?_)
            obtain ⟨y_16, ey_16⟩ : ∃ z : Int32, z = x4 + (-1 : Int32) := ⟨_, rfl⟩
            have hf := mm_nms hf ey_16
            refine lv_iinc (v := y_16) (lv' := [(4, .int y_16), (3, .int y_15), (5, .int y_7), (0, .ref (a 0)), (1, .int x1)]) hx hb dX7_lay_65 hl (k := 4) rfl (by rw [ey_16]; rfl) (by decide) rfl (fun ls hl => ?_)
            refine lv_goto (tgt := 15) hx hb dX7_lay_68 (by decide) ?_
            exact ih _ _ _ _ H locs ls hf hP hD hS (lv_sub hl [3, 4, 1, 0] rfl)
          · have hf := mm_in hf c_11
            refine lv_iconst (v := 0) hx hb dX7_lay_49 (by decide) ?_
            apply mm_sub2 hf
            exact mm_zret (v := false) C0 hP hD hS dX7_lay_50 (by decide)

def fX7_lay (N : Nat) (x1 : Int32) (x2 : Int32) (v_at : List Int32) : Option (Bool × List Int32) :=
    mm_bd1 (fJ7_fill_53178 N (-1 : Int32) v_at) (fun (w_1 : List Int32) =>
    mm_nm ((x1 - (1 : Int32))) (fun (y_3 : Int32) =>
    fX7_lay_15 N N x1 x2 y_3 w_1))

set_option maxHeartbeats 4000000 in
set_option maxRecDepth 100000 in
theorem ctX7_lay {l : Launch} {D : va_G} {cI cL cS cH : ClassId} {a : Nat → Nat} {x1 : Int32} {x2 : Int32} {v_list : List Int32} {v_found : List Int32} {v_at : List Int32} {r : Bool} {w_at : List Int32} {N d : Nat} (hd : 2 ≤ d) (hf : fX7_lay N x1 x2 v_at = some (r, w_at)) : mm_Ct l yX7_lay cX7_lay 6 (some .boolean) d D (mm_T cI cL cS cH) [.ref (a 0), .int x1, .int x2] (wd_X7 cI cL cS cH a v_list v_found v_at) (wd_X7 cI cL cS cH a v_list v_found w_at) (some (.int (mm_b r))) := by
  refine mm_of (by decide) (Nat.le_of_ble_eq_true rfl) ?_
  intro p e s m args below meth c A H locs ls C0 hP hD hA hS hl
  have C0 : mm_Cx p s m args meth c RX7 cX7_lay 6 (some .boolean) D (mm_T cI cL cS cH) A := C0
  obtain ⟨hx, hb, hml, hown, hts, hr, hlocks, hK, hSt⟩ := id C0
  have hl : lv_has ls 6 [(0, .ref (a 0)), (1, .int x1), (2, .int x2)] := hl
  unfold fX7_lay at hf
  refine lv_aload_n hx hb dX7_lay_0 rfl (lv_at hl 0 rfl) ?_
  refine mm_get C0 hP iw_X7 0 rfl rfl 2 (by decide) fl_X7_18 rfl dX7_lay_1 ?_
  refine lv_iconst (v := -1) hx hb dX7_lay_4 (by decide) ?_
  obtain ⟨w_1, hc_2, hf⟩ := mm_bd1s hf
  refine mm_callT (w2 := (wd_X7 cI cL cS cH a v_list v_found w_1)) (rest := []) C0 lk_X7_21 (ctJ7_fill_53178 (a := (fun k => a (k + 3))) (d := d - 1) (by omega) hc_2) (by omega) rfl hl.1 rfl (mm_cat rfl) dX7_lay_5 hP hD hA hS [false, false, false, true] rfl rfl rfl rfl (fun H locs hP hD hS => ?_)
  refine W.eq (g2 := F0 m 8 ls []) rfl ?_
  refine lv_iload_n hx hb dX7_lay_8 rfl (lv_at hl 2 rfl) ?_
  refine lv_istore_n (lv' := [(3, .int x2), (0, .ref (a 0)), (1, .int x1), (2, .int x2)]) hx hb dX7_lay_9 rfl hl (by decide) rfl (fun ls hl => ?_)
  refine lv_iload_n hx hb dX7_lay_10 rfl (lv_at hl 2 rfl) ?_
  refine lv_iconst (v := 1) hx hb dX7_lay_11 (by decide) ?_
  refine lv_isub hx hb dX7_lay_12 ?_
  refine lv_topi (fun y_3 ey_3 => ?_)
  have hf := mm_nms hf ey_3
  refine lv_istore (lv' := [(4, .int y_3), (3, .int x2), (0, .ref (a 0)), (1, .int x1), (2, .int x2)]) hx hb dX7_lay_13 hl (by decide) rfl (fun ls hl => ?_)
  exact tX7_lay_15 hd C0 hA N  N _ _ _ _ H locs ls hf hP hD hS (lv_sub hl [2, 3, 1, 0] rfl)

theorem dX7_isWithin_0 : decode cX7_isWithin 0 = .ok (.aload_n 0, 1) := by decide +kernel
theorem dX7_isWithin_1 : decode cX7_isWithin 1 = .ok (.getfield 18, 3) := by decide +kernel
theorem dX7_isWithin_4 : decode cX7_isWithin 4 = .ok (.iload_n 1, 1) := by decide +kernel
theorem dX7_isWithin_5 : decode cX7_isWithin 5 = .ok (.iaload, 1) := by decide +kernel
theorem dX7_isWithin_6 : decode cX7_isWithin 6 = .ok (.aload_n 0, 1) := by decide +kernel
theorem dX7_isWithin_7 : decode cX7_isWithin 7 = .ok (.getfield 18, 3) := by decide +kernel
theorem dX7_isWithin_10 : decode cX7_isWithin 10 = .ok (.iload_n 1, 1) := by decide +kernel
theorem dX7_isWithin_11 : decode cX7_isWithin 11 = .ok (.iconst 1, 1) := by decide +kernel
theorem dX7_isWithin_12 : decode cX7_isWithin 12 = .ok (.iadd, 1) := by decide +kernel
theorem dX7_isWithin_13 : decode cX7_isWithin 13 = .ok (.iaload, 1) := by decide +kernel
theorem dX7_isWithin_14 : decode cX7_isWithin 14 = .ok (.invokestatic 34, 3) := by decide +kernel
theorem dX7_isWithin_17 : decode cX7_isWithin 17 = .ok (.istore_n 3, 1) := by decide +kernel
theorem dX7_isWithin_18 : decode cX7_isWithin 18 = .ok (.aload_n 0, 1) := by decide +kernel
theorem dX7_isWithin_19 : decode cX7_isWithin 19 = .ok (.getfield 18, 3) := by decide +kernel
theorem dX7_isWithin_22 : decode cX7_isWithin 22 = .ok (.iload_n 1, 1) := by decide +kernel
theorem dX7_isWithin_23 : decode cX7_isWithin 23 = .ok (.iaload, 1) := by decide +kernel
theorem dX7_isWithin_24 : decode cX7_isWithin 24 = .ok (.aload_n 0, 1) := by decide +kernel
theorem dX7_isWithin_25 : decode cX7_isWithin 25 = .ok (.getfield 18, 3) := by decide +kernel
theorem dX7_isWithin_28 : decode cX7_isWithin 28 = .ok (.iload_n 1, 1) := by decide +kernel
theorem dX7_isWithin_29 : decode cX7_isWithin 29 = .ok (.iconst 1, 1) := by decide +kernel
theorem dX7_isWithin_30 : decode cX7_isWithin 30 = .ok (.iadd, 1) := by decide +kernel
theorem dX7_isWithin_31 : decode cX7_isWithin 31 = .ok (.iaload, 1) := by decide +kernel
theorem dX7_isWithin_32 : decode cX7_isWithin 32 = .ok (.invokestatic 40, 3) := by decide +kernel
theorem dX7_isWithin_35 : decode cX7_isWithin 35 = .ok (.istore 4, 2) := by decide +kernel
theorem dX7_isWithin_37 : decode cX7_isWithin 37 = .ok (.iload_n 3, 1) := by decide +kernel
theorem dX7_isWithin_38 : decode cX7_isWithin 38 = .ok (.iload_n 2, 1) := by decide +kernel
theorem dX7_isWithin_39 : decode cX7_isWithin 39 = .ok (.if_icmp .ge 13, 3) := by decide +kernel
theorem dX7_isWithin_42 : decode cX7_isWithin 42 = .ok (.iload_n 2, 1) := by decide +kernel
theorem dX7_isWithin_43 : decode cX7_isWithin 43 = .ok (.iload 4, 2) := by decide +kernel
theorem dX7_isWithin_45 : decode cX7_isWithin 45 = .ok (.if_icmp .ge 7, 3) := by decide +kernel
theorem dX7_isWithin_48 : decode cX7_isWithin 48 = .ok (.iconst 1, 1) := by decide +kernel
theorem dX7_isWithin_49 : decode cX7_isWithin 49 = .ok (.goto 4, 3) := by decide +kernel
theorem dX7_isWithin_52 : decode cX7_isWithin 52 = .ok (.iconst 0, 1) := by decide +kernel
theorem dX7_isWithin_53 : decode cX7_isWithin 53 = .ok (.ireturn, 1) := by decide +kernel
def fX7_isWithin (N : Nat) (x1 : Int32) (x2 : Int32) (v_at : List Int32) : Option (Bool) :=
    mm_ck (mm_inb x1 v_at.length) (mm_ck (mm_inb (x1 + (1 : Int32)) v_at.length) (mm_nm ((mm_min (mm_ig v_at x1) (mm_ig v_at (x1 + (1 : Int32))))) (fun (y_3 : Int32) =>
    mm_ck (mm_inb x1 v_at.length) (mm_ck (mm_inb (x1 + (1 : Int32)) v_at.length) (mm_nm ((mm_max (mm_ig v_at x1) (mm_ig v_at (x1 + (1 : Int32))))) (fun (y_6 : Int32) =>
    if x2 ≤ y_3 then
    (some (false))
    else (if y_6 ≤ x2 then
    (some (false))
    else (some (true)))))))))

set_option maxHeartbeats 4000000 in
set_option maxRecDepth 100000 in
theorem ctX7_isWithin {l : Launch} {D : va_G} {cI cL cS cH : ClassId} {a : Nat → Nat} {x1 : Int32} {x2 : Int32} {v_list : List Int32} {v_found : List Int32} {v_at : List Int32} {r : Bool} {N d : Nat} (hd : 1 ≤ d) (hf : fX7_isWithin N x1 x2 v_at = some r) : mm_Ct l yX7_isWithin cX7_isWithin 5 (some .boolean) d D (mm_T cI cL cS cH) [.ref (a 0), .int x1, .int x2] (wd_X7 cI cL cS cH a v_list v_found v_at) (wd_X7 cI cL cS cH a v_list v_found v_at) (some (.int (mm_b r))) := by
  refine mm_of (by decide) (Nat.le_of_ble_eq_true rfl) ?_
  intro p e s m args below meth c A H locs ls C0 hP hD hA hS hl
  have C0 : mm_Cx p s m args meth c RX7 cX7_isWithin 5 (some .boolean) D (mm_T cI cL cS cH) A := C0
  obtain ⟨hx, hb, hml, hown, hts, hr, hlocks, hK, hSt⟩ := id C0
  have hl : lv_has ls 5 [(0, .ref (a 0)), (1, .int x1), (2, .int x2)] := hl
  unfold fX7_isWithin at hf
  refine lv_aload_n hx hb dX7_isWithin_0 rfl (lv_at hl 0 rfl) ?_
  refine mm_get C0 hP iw_X7 0 rfl rfl 2 (by decide) fl_X7_18 rfl dX7_isWithin_1 ?_
  refine lv_iload_n hx hb dX7_isWithin_4 rfl (lv_at hl 1 rfl) ?_
  obtain ⟨h_1, hf⟩ := mm_cks hf
  refine mm_iald C0 hP 3 rfl h_1 dX7_isWithin_5 ?_
  refine lv_aload_n hx hb dX7_isWithin_6 rfl (lv_at hl 0 rfl) ?_
  refine mm_get C0 hP iw_X7 0 rfl rfl 2 (by decide) fl_X7_18 rfl dX7_isWithin_7 ?_
  refine lv_iload_n hx hb dX7_isWithin_10 rfl (lv_at hl 1 rfl) ?_
  refine lv_iconst (v := 1) hx hb dX7_isWithin_11 (by decide) ?_
  refine lv_iadd hx hb dX7_isWithin_12 ?_
  obtain ⟨h_2, hf⟩ := mm_cks hf
  refine mm_iald C0 hP 3 rfl h_2 dX7_isWithin_13 ?_
  refine mm_mmin C0 lm_X7_34 (by omega) hl.1 (mm_cat rfl) dX7_isWithin_14 ?_
  refine lv_topi (fun y_3 ey_3 => ?_)
  have hf := mm_nms hf ey_3
  refine lv_istore_n (lv' := [(3, .int y_3), (0, .ref (a 0)), (1, .int x1), (2, .int x2)]) hx hb dX7_isWithin_17 rfl hl (by decide) rfl (fun ls hl => ?_)
  refine lv_aload_n hx hb dX7_isWithin_18 rfl (lv_at hl 1 rfl) ?_
  refine mm_get C0 hP iw_X7 0 rfl rfl 2 (by decide) fl_X7_18 rfl dX7_isWithin_19 ?_
  refine lv_iload_n hx hb dX7_isWithin_22 rfl (lv_at hl 2 rfl) ?_
  obtain ⟨h_4, hf⟩ := mm_cks hf
  refine mm_iald C0 hP 3 rfl h_4 dX7_isWithin_23 ?_
  refine lv_aload_n hx hb dX7_isWithin_24 rfl (lv_at hl 1 rfl) ?_
  refine mm_get C0 hP iw_X7 0 rfl rfl 2 (by decide) fl_X7_18 rfl dX7_isWithin_25 ?_
  refine lv_iload_n hx hb dX7_isWithin_28 rfl (lv_at hl 2 rfl) ?_
  refine lv_iconst (v := 1) hx hb dX7_isWithin_29 (by decide) ?_
  refine lv_iadd hx hb dX7_isWithin_30 ?_
  obtain ⟨h_5, hf⟩ := mm_cks hf
  refine mm_iald C0 hP 3 rfl h_5 dX7_isWithin_31 ?_
  refine mm_mmax C0 lm_X7_40 (by omega) hl.1 (mm_cat rfl) dX7_isWithin_32 ?_
  refine lv_topi (fun y_6 ey_6 => ?_)
  have hf := mm_nms hf ey_6
  refine lv_istore (lv' := [(4, .int y_6), (3, .int y_3), (0, .ref (a 0)), (1, .int x1), (2, .int x2)]) hx hb dX7_isWithin_35 hl (by decide) rfl (fun ls hl => ?_)
  refine lv_iload_n hx hb dX7_isWithin_37 rfl (lv_at hl 1 rfl) ?_
  refine lv_iload_n hx hb dX7_isWithin_38 rfl (lv_at hl 4 rfl) ?_
  refine lv_icmp_ge (tgt := 52) hx hb dX7_isWithin_39 (by decide) (fun c_7 => ?_) (fun c_7 => ?_)
  · have hf := mm_ip hf c_7
    refine lv_iconst (v := 0) hx hb dX7_isWithin_52 (by decide) ?_
    obtain rfl := mm_inj1 hf
    exact mm_zret (v := false) C0 hP hD hS dX7_isWithin_53 (by decide)
  · have hf := mm_in hf c_7
    refine lv_iload_n hx hb dX7_isWithin_42 rfl (lv_at hl 4 rfl) ?_
    refine lv_iload hx hb dX7_isWithin_43 (lv_at hl 0 rfl) ?_
    refine lv_icmp_ge (tgt := 52) hx hb dX7_isWithin_45 (by decide) (fun c_8 => ?_) (fun c_8 => ?_)
    · have hf := mm_ip hf c_8
      refine lv_iconst (v := 0) hx hb dX7_isWithin_52 (by decide) ?_
      obtain rfl := mm_inj1 hf
      exact mm_zret (v := false) C0 hP hD hS dX7_isWithin_53 (by decide)
    · have hf := mm_in hf c_8
      refine lv_iconst (v := 1) hx hb dX7_isWithin_48 (by decide) ?_
      refine lv_goto (tgt := 53) hx hb dX7_isWithin_49 (by decide) ?_
      obtain rfl := mm_inj1 hf
      exact mm_zret (v := true) C0 hP hD hS dX7_isWithin_53 (by decide)

theorem dX7_crossing_0 : decode cX7_crossing 0 = .ok (.aload_n 0, 1) := by decide +kernel
theorem dX7_crossing_1 : decode cX7_crossing 1 = .ok (.iload_n 1, 1) := by decide +kernel
theorem dX7_crossing_2 : decode cX7_crossing 2 = .ok (.aload_n 0, 1) := by decide +kernel
theorem dX7_crossing_3 : decode cX7_crossing 3 = .ok (.getfield 18, 3) := by decide +kernel
theorem dX7_crossing_6 : decode cX7_crossing 6 = .ok (.iload_n 2, 1) := by decide +kernel
theorem dX7_crossing_7 : decode cX7_crossing 7 = .ok (.iaload, 1) := by decide +kernel
theorem dX7_crossing_8 : decode cX7_crossing 8 = .ok (.invokevirtual 31, 3) := by decide +kernel
theorem dX7_crossing_11 : decode cX7_crossing 11 = .ok (.aload_n 0, 1) := by decide +kernel
theorem dX7_crossing_12 : decode cX7_crossing 12 = .ok (.iload_n 1, 1) := by decide +kernel
theorem dX7_crossing_13 : decode cX7_crossing 13 = .ok (.aload_n 0, 1) := by decide +kernel
theorem dX7_crossing_14 : decode cX7_crossing 14 = .ok (.getfield 18, 3) := by decide +kernel
theorem dX7_crossing_17 : decode cX7_crossing 17 = .ok (.iload_n 2, 1) := by decide +kernel
theorem dX7_crossing_18 : decode cX7_crossing 18 = .ok (.iconst 1, 1) := by decide +kernel
theorem dX7_crossing_19 : decode cX7_crossing 19 = .ok (.iadd, 1) := by decide +kernel
theorem dX7_crossing_20 : decode cX7_crossing 20 = .ok (.iaload, 1) := by decide +kernel
theorem dX7_crossing_21 : decode cX7_crossing 21 = .ok (.invokevirtual 31, 3) := by decide +kernel
theorem dX7_crossing_24 : decode cX7_crossing 24 = .ok (.if_icmp .eq 7, 3) := by decide +kernel
theorem dX7_crossing_27 : decode cX7_crossing 27 = .ok (.iconst 1, 1) := by decide +kernel
theorem dX7_crossing_28 : decode cX7_crossing 28 = .ok (.goto 4, 3) := by decide +kernel
theorem dX7_crossing_31 : decode cX7_crossing 31 = .ok (.iconst 0, 1) := by decide +kernel
theorem dX7_crossing_32 : decode cX7_crossing 32 = .ok (.ireturn, 1) := by decide +kernel
def fX7_crossing (N : Nat) (x1 : Int32) (x2 : Int32) (v_at : List Int32) : Option (Bool) :=
    mm_ck (mm_inb x2 v_at.length) (mm_bd1 (fX7_isWithin N x1 (mm_ig v_at x2) v_at) (fun (r_2 : Bool) =>
    mm_ck (mm_inb (x2 + (1 : Int32)) v_at.length) (mm_bd1 (fX7_isWithin N x1 (mm_ig v_at (x2 + (1 : Int32))) v_at) (fun (r_5 : Bool) =>
    if (mm_b r_2) = (mm_b r_5) then
    (some (false))
    else (some (true))))))

set_option maxHeartbeats 4000000 in
set_option maxRecDepth 100000 in
theorem ctX7_crossing {l : Launch} {D : va_G} {cI cL cS cH : ClassId} {a : Nat → Nat} {x1 : Int32} {x2 : Int32} {v_list : List Int32} {v_found : List Int32} {v_at : List Int32} {r : Bool} {N d : Nat} (hd : 2 ≤ d) (hf : fX7_crossing N x1 x2 v_at = some r) : mm_Ct l yX7_crossing cX7_crossing 3 (some .boolean) d D (mm_T cI cL cS cH) [.ref (a 0), .int x1, .int x2] (wd_X7 cI cL cS cH a v_list v_found v_at) (wd_X7 cI cL cS cH a v_list v_found v_at) (some (.int (mm_b r))) := by
  refine mm_of (by decide) (Nat.le_of_ble_eq_true rfl) ?_
  intro p e s m args below meth c A H locs ls C0 hP hD hA hS hl
  have C0 : mm_Cx p s m args meth c RX7 cX7_crossing 3 (some .boolean) D (mm_T cI cL cS cH) A := C0
  obtain ⟨hx, hb, hml, hown, hts, hr, hlocks, hK, hSt⟩ := id C0
  have hl : lv_has ls 3 [(0, .ref (a 0)), (1, .int x1), (2, .int x2)] := hl
  unfold fX7_crossing at hf
  refine lv_aload_n hx hb dX7_crossing_0 rfl (lv_at hl 0 rfl) ?_
  refine lv_iload_n hx hb dX7_crossing_1 rfl (lv_at hl 1 rfl) ?_
  refine lv_aload_n hx hb dX7_crossing_2 rfl (lv_at hl 0 rfl) ?_
  refine mm_get C0 hP iw_X7 0 rfl rfl 2 (by decide) fl_X7_18 rfl dX7_crossing_3 ?_
  refine lv_iload_n hx hb dX7_crossing_6 rfl (lv_at hl 2 rfl) ?_
  obtain ⟨h_1, hf⟩ := mm_cks hf
  refine mm_iald C0 hP 3 rfl h_1 dX7_crossing_7 ?_
  obtain ⟨r_2, hc_3, hf⟩ := mm_bd1s hf
  refine mm_callVF (q0 := 0) (ci := 7) (rest := []) C0 lk_X7_31 (ctX7_isWithin (a := a) (d := d - 1) (by omega) hc_3) (by omega) rfl hl.1 rfl (mm_cat rfl) dX7_crossing_8 hP hD hA hS rfl rfl (fun H locs hP hD hS => ?_)
  refine W.eq (g2 := F0 m 11 ls [.int (mm_b r_2)]) rfl ?_
  refine lv_aload_n hx hb dX7_crossing_11 rfl (lv_at hl 0 rfl) ?_
  refine lv_iload_n hx hb dX7_crossing_12 rfl (lv_at hl 1 rfl) ?_
  refine lv_aload_n hx hb dX7_crossing_13 rfl (lv_at hl 0 rfl) ?_
  refine mm_get C0 hP iw_X7 0 rfl rfl 2 (by decide) fl_X7_18 rfl dX7_crossing_14 ?_
  refine lv_iload_n hx hb dX7_crossing_17 rfl (lv_at hl 2 rfl) ?_
  refine lv_iconst (v := 1) hx hb dX7_crossing_18 (by decide) ?_
  refine lv_iadd hx hb dX7_crossing_19 ?_
  obtain ⟨h_4, hf⟩ := mm_cks hf
  refine mm_iald C0 hP 3 rfl h_4 dX7_crossing_20 ?_
  obtain ⟨r_5, hc_6, hf⟩ := mm_bd1s hf
  refine mm_callVF (q0 := 0) (ci := 7) (rest := [.int (mm_b r_2)]) C0 lk_X7_31 (ctX7_isWithin (a := a) (d := d - 1) (by omega) hc_6) (by omega) rfl hl.1 rfl (mm_cat rfl) dX7_crossing_21 hP hD hA hS rfl rfl (fun H locs hP hD hS => ?_)
  refine W.eq (g2 := F0 m 24 ls [.int (mm_b r_5), .int (mm_b r_2)]) rfl ?_
  refine lv_icmp_eq (tgt := 31) hx hb dX7_crossing_24 (by decide) (fun c_7 => ?_) (fun c_7 => ?_)
  · have hf := mm_ip hf c_7
    refine lv_iconst (v := 0) hx hb dX7_crossing_31 (by decide) ?_
    obtain rfl := mm_inj1 hf
    exact mm_zret (v := false) C0 hP hD hS dX7_crossing_32 (by decide)
  · have hf := mm_in hf c_7
    refine lv_iconst (v := 1) hx hb dX7_crossing_27 (by decide) ?_
    refine lv_goto (tgt := 32) hx hb dX7_crossing_28 (by decide) ?_
    obtain rfl := mm_inj1 hf
    exact mm_zret (v := true) C0 hP hD hS dX7_crossing_32 (by decide)

theorem dX7_firstCross_0 : decode cX7_firstCross 0 = .ok (.iconst 0, 1) := by decide +kernel
theorem dX7_firstCross_1 : decode cX7_firstCross 1 = .ok (.istore_n 2, 1) := by decide +kernel
theorem dX7_firstCross_2 : decode cX7_firstCross 2 = .ok (.iload_n 2, 1) := by decide +kernel
theorem dX7_firstCross_3 : decode cX7_firstCross 3 = .ok (.iload_n 1, 1) := by decide +kernel
theorem dX7_firstCross_4 : decode cX7_firstCross 4 = .ok (.iconst 1, 1) := by decide +kernel
theorem dX7_firstCross_5 : decode cX7_firstCross 5 = .ok (.isub, 1) := by decide +kernel
theorem dX7_firstCross_6 : decode cX7_firstCross 6 = .ok (.if_icmp .ge 42, 3) := by decide +kernel
theorem dX7_firstCross_9 : decode cX7_firstCross 9 = .ok (.iload_n 2, 1) := by decide +kernel
theorem dX7_firstCross_10 : decode cX7_firstCross 10 = .ok (.iconst 2, 1) := by decide +kernel
theorem dX7_firstCross_11 : decode cX7_firstCross 11 = .ok (.iadd, 1) := by decide +kernel
theorem dX7_firstCross_12 : decode cX7_firstCross 12 = .ok (.istore_n 3, 1) := by decide +kernel
theorem dX7_firstCross_13 : decode cX7_firstCross 13 = .ok (.iload_n 3, 1) := by decide +kernel
theorem dX7_firstCross_14 : decode cX7_firstCross 14 = .ok (.iload_n 1, 1) := by decide +kernel
theorem dX7_firstCross_15 : decode cX7_firstCross 15 = .ok (.iconst 1, 1) := by decide +kernel
theorem dX7_firstCross_16 : decode cX7_firstCross 16 = .ok (.isub, 1) := by decide +kernel
theorem dX7_firstCross_17 : decode cX7_firstCross 17 = .ok (.if_icmp .ge 25, 3) := by decide +kernel
theorem dX7_firstCross_20 : decode cX7_firstCross 20 = .ok (.aload_n 0, 1) := by decide +kernel
theorem dX7_firstCross_21 : decode cX7_firstCross 21 = .ok (.iload_n 2, 1) := by decide +kernel
theorem dX7_firstCross_22 : decode cX7_firstCross 22 = .ok (.iload_n 3, 1) := by decide +kernel
theorem dX7_firstCross_23 : decode cX7_firstCross 23 = .ok (.invokevirtual 27, 3) := by decide +kernel
theorem dX7_firstCross_26 : decode cX7_firstCross 26 = .ok (.ifCond .eq 10, 3) := by decide +kernel
theorem dX7_firstCross_29 : decode cX7_firstCross 29 = .ok (.bipush 10, 2) := by decide +kernel
theorem dX7_firstCross_31 : decode cX7_firstCross 31 = .ok (.iload_n 2, 1) := by decide +kernel
theorem dX7_firstCross_32 : decode cX7_firstCross 32 = .ok (.imul, 1) := by decide +kernel
theorem dX7_firstCross_33 : decode cX7_firstCross 33 = .ok (.iload_n 3, 1) := by decide +kernel
theorem dX7_firstCross_34 : decode cX7_firstCross 34 = .ok (.iadd, 1) := by decide +kernel
theorem dX7_firstCross_35 : decode cX7_firstCross 35 = .ok (.ireturn, 1) := by decide +kernel
theorem dX7_firstCross_36 : decode cX7_firstCross 36 = .ok (.iinc 3 2, 3) := by decide +kernel
theorem dX7_firstCross_39 : decode cX7_firstCross 39 = .ok (.goto (-26), 3) := by decide +kernel
theorem dX7_firstCross_42 : decode cX7_firstCross 42 = .ok (.iinc 2 1, 3) := by decide +kernel
theorem dX7_firstCross_45 : decode cX7_firstCross 45 = .ok (.goto (-43), 3) := by decide +kernel
theorem dX7_firstCross_48 : decode cX7_firstCross 48 = .ok (.iconst (-1), 1) := by decide +kernel
theorem dX7_firstCross_49 : decode cX7_firstCross 49 = .ok (.ireturn, 1) := by decide +kernel
def fX7_firstCross_13 (N : Nat) (k_2 : Int32 → Int32 → List Int32 → Option (Int32)) : Nat → Int32 → Int32 → Int32 → List Int32 → Option (Int32)
  | 0 => fun _ _ _ _ => none
  | n + 1 => fun x1 x2 x3 v_at =>
    if (x1 - (1 : Int32)) ≤ x3 then
    (mm_nm (x2 + (1 : Int32)) (fun (y_4 : Int32) =>
    k_2 x1 y_4 v_at))
    else (mm_bd1 (fX7_crossing N x2 x3 v_at) (fun (r_5 : Bool) =>
    if r_5 = false then
    (mm_nm (x3 + (2 : Int32)) (fun (y_8 : Int32) =>
    fX7_firstCross_13 N k_2 n x1 x2 y_8 v_at))
    else (some ((((10 : Int32) * x2) + x3)))))

set_option maxHeartbeats 4000000 in
set_option maxRecDepth 100000 in
theorem tX7_firstCross_13 {p : Program} {l : Launch} {e : Env} {s : State} {m : MethodId} {args : Array Value} {below : List Frame} {meth : Method} {c : Code} {D : va_G} {cI cL cS cH : ClassId} {A : Nat → Prop} {d : Nat} {a : Nat → Nat} (hd : 3 ≤ d) (C0 : mm_Cx p s m args meth c RX7 cX7_firstCross 4 (some .int) D (mm_T cI cL cS cH) A) (hA : ∀ q, s.heap.size ≤ q → A q) {v_list : List Int32} {v_found : List Int32} {r : Int32} (N : Nat) {k_2 : Int32 → Int32 → List Int32 → Option (Int32)} (hk_2 : ∀ (x1 : Int32) (x2 : Int32) (v_at : List Int32) (H : Heap) (locs : List Loc) (ls : Array Slot), k_2 x1 x2 v_at = some r → va_P D mm_cl (wd_X7 cI cL cS cH a v_list v_found v_at) H → va_D A (wd_X7 cI cL cS cH a v_list v_found v_at) → va_S A s.heap H locs → lv_has ls 4 [(0, .ref (a 0)), (1, .int x1), (2, .int x2)] → W p l e (mm_rr d) s m args below meth c H locs 0 0 (mm_Z below D A (wd_X7 cI cL cS cH a v_list v_found v_at) (some (.int r)) args s) (F0 m 2 ls [])) : ∀ (n : Nat), ∀ (x1 : Int32) (x2 : Int32) (x3 : Int32) (v_at : List Int32) (H : Heap) (locs : List Loc) (ls : Array Slot), fX7_firstCross_13 N k_2 n x1 x2 x3 v_at = some r → va_P D mm_cl (wd_X7 cI cL cS cH a v_list v_found v_at) H → va_D A (wd_X7 cI cL cS cH a v_list v_found v_at) → va_S A s.heap H locs → lv_has ls 4 [(0, .ref (a 0)), (1, .int x1), (2, .int x2), (3, .int x3)] → W p l e (mm_rr d) s m args below meth c H locs 0 0 (mm_Z below D A (wd_X7 cI cL cS cH a v_list v_found v_at) (some (.int r)) args s) (F0 m 13 ls []) := by
  obtain ⟨hx, hb, hml, hown, hts, hr, hlocks, hK, hSt⟩ := id C0
  intro n
  induction n with
  | zero =>
    intro x1 x2 x3 v_at H locs ls hf
    cases (show none = some _ from hf)
  | succ n ih =>
    intro x1 x2 x3 v_at H locs ls hf hP hD hS hl
    unfold fX7_firstCross_13 at hf
    refine lv_iload_n hx hb dX7_firstCross_13 rfl (lv_at hl 3 rfl) ?_
    refine lv_iload_n hx hb dX7_firstCross_14 rfl (lv_at hl 1 rfl) ?_
    refine lv_iconst (v := 1) hx hb dX7_firstCross_15 (by decide) ?_
    refine lv_isub hx hb dX7_firstCross_16 ?_
    refine lv_icmp_ge (tgt := 42) hx hb dX7_firstCross_17 (by decide) (fun c_3 => ?_) (fun c_3 => ?_)
    · have hf := mm_ip hf c_3
      obtain ⟨y_4, ey_4⟩ : ∃ z : Int32, z = x2 + (1 : Int32) := ⟨_, rfl⟩
      have hf := mm_nms hf ey_4
      refine lv_iinc (v := y_4) (lv' := [(2, .int y_4), (0, .ref (a 0)), (1, .int x1), (3, .int x3)]) hx hb dX7_firstCross_42 hl (k := 2) rfl (by rw [ey_4]; rfl) (by decide) rfl (fun ls hl => ?_)
      refine lv_goto (tgt := 2) hx hb dX7_firstCross_45 (by decide) ?_
      exact hk_2 _ _ _ H locs ls hf hP hD hS (lv_sub hl [1, 2, 0] rfl)
    · have hf := mm_in hf c_3
      refine lv_aload_n hx hb dX7_firstCross_20 rfl (lv_at hl 0 rfl) ?_
      refine lv_iload_n hx hb dX7_firstCross_21 rfl (lv_at hl 2 rfl) ?_
      refine lv_iload_n hx hb dX7_firstCross_22 rfl (lv_at hl 3 rfl) ?_
      obtain ⟨r_5, hc_6, hf⟩ := mm_bd1s hf
      refine mm_callVF (q0 := 0) (ci := 7) (rest := []) C0 lk_X7_27 (ctX7_crossing (a := a) (d := d - 1) (by omega) hc_6) (by omega) rfl hl.1 rfl (mm_cat rfl) dX7_firstCross_23 hP hD hA hS rfl rfl (fun H locs hP hD hS => ?_)
      refine W.eq (g2 := F0 m 26 ls [.int (mm_b r_5)]) rfl ?_
      refine lv_if_eq (tgt := 36) hx hb dX7_firstCross_26 (by decide) (fun c_7 => ?_) (fun c_7 => ?_)
      · have hf := mm_ip hf (mm_b0 c_7)
        obtain ⟨y_8, ey_8⟩ : ∃ z : Int32, z = x3 + (2 : Int32) := ⟨_, rfl⟩
        have hf := mm_nms hf ey_8
        refine lv_iinc (v := y_8) (lv' := [(3, .int y_8), (0, .ref (a 0)), (1, .int x1), (2, .int x2)]) hx hb dX7_firstCross_36 hl (k := 3) rfl (by rw [ey_8]; rfl) (by decide) rfl (fun ls hl => ?_)
        refine lv_goto (tgt := 13) hx hb dX7_firstCross_39 (by decide) ?_
        exact ih _ _ _ _ H locs ls hf hP hD hS (lv_sub hl [1, 2, 3, 0] rfl)
      · have hf := mm_in hf (mm_b1 c_7)
        refine lv_bipush (v := 10) hx hb dX7_firstCross_29 (by decide) ?_
        refine lv_iload_n hx hb dX7_firstCross_31 rfl (lv_at hl 2 rfl) ?_
        refine lv_imul hx hb dX7_firstCross_32 ?_
        refine lv_iload_n hx hb dX7_firstCross_33 rfl (lv_at hl 3 rfl) ?_
        refine lv_iadd hx hb dX7_firstCross_34 ?_
        obtain rfl := mm_inj1 hf
        exact mm_iret C0 hP hD hS dX7_firstCross_35

def fX7_firstCross_2 (N : Nat)  : Nat → Int32 → Int32 → List Int32 → Option (Int32)
  | 0 => fun _ _ _ => none
  | n + 1 => fun x1 x2 v_at =>
    if (x1 - (1 : Int32)) ≤ x2 then
    (some ((-1 : Int32)))
    else (mm_nm ((x2 + (2 : Int32))) (fun (y_2 : Int32) =>
    fX7_firstCross_13 N (fX7_firstCross_2 N n) N x1 x2 y_2 v_at))

set_option maxHeartbeats 4000000 in
set_option maxRecDepth 100000 in
theorem tX7_firstCross_2 {p : Program} {l : Launch} {e : Env} {s : State} {m : MethodId} {args : Array Value} {below : List Frame} {meth : Method} {c : Code} {D : va_G} {cI cL cS cH : ClassId} {A : Nat → Prop} {d : Nat} {a : Nat → Nat} (hd : 3 ≤ d) (C0 : mm_Cx p s m args meth c RX7 cX7_firstCross 4 (some .int) D (mm_T cI cL cS cH) A) (hA : ∀ q, s.heap.size ≤ q → A q) {v_list : List Int32} {v_found : List Int32} {r : Int32} (N : Nat)  : ∀ (n : Nat), ∀ (x1 : Int32) (x2 : Int32) (v_at : List Int32) (H : Heap) (locs : List Loc) (ls : Array Slot), fX7_firstCross_2 N n x1 x2 v_at = some r → va_P D mm_cl (wd_X7 cI cL cS cH a v_list v_found v_at) H → va_D A (wd_X7 cI cL cS cH a v_list v_found v_at) → va_S A s.heap H locs → lv_has ls 4 [(0, .ref (a 0)), (1, .int x1), (2, .int x2)] → W p l e (mm_rr d) s m args below meth c H locs 0 0 (mm_Z below D A (wd_X7 cI cL cS cH a v_list v_found v_at) (some (.int r)) args s) (F0 m 2 ls []) := by
  obtain ⟨hx, hb, hml, hown, hts, hr, hlocks, hK, hSt⟩ := id C0
  intro n
  induction n with
  | zero =>
    intro x1 x2 v_at H locs ls hf
    cases (show none = some _ from hf)
  | succ n ih =>
    intro x1 x2 v_at H locs ls hf hP hD hS hl
    unfold fX7_firstCross_2 at hf
    refine lv_iload_n hx hb dX7_firstCross_2 rfl (lv_at hl 2 rfl) ?_
    refine lv_iload_n hx hb dX7_firstCross_3 rfl (lv_at hl 1 rfl) ?_
    refine lv_iconst (v := 1) hx hb dX7_firstCross_4 (by decide) ?_
    refine lv_isub hx hb dX7_firstCross_5 ?_
    refine lv_icmp_ge (tgt := 48) hx hb dX7_firstCross_6 (by decide) (fun c_1 => ?_) (fun c_1 => ?_)
    · have hf := mm_ip hf c_1
      refine lv_iconst (v := -1) hx hb dX7_firstCross_48 (by decide) ?_
      obtain rfl := mm_inj1 hf
      exact mm_iret C0 hP hD hS dX7_firstCross_49
    · have hf := mm_in hf c_1
      refine lv_iload_n hx hb dX7_firstCross_9 rfl (lv_at hl 2 rfl) ?_
      refine lv_iconst (v := 2) hx hb dX7_firstCross_10 (by decide) ?_
      refine lv_iadd hx hb dX7_firstCross_11 ?_
      refine lv_topi (fun y_2 ey_2 => ?_)
      have hf := mm_nms hf ey_2
      refine lv_istore_n (lv' := [(3, .int y_2), (0, .ref (a 0)), (1, .int x1), (2, .int x2)]) hx hb dX7_firstCross_12 rfl hl (by decide) rfl (fun ls hl => ?_)
      exact tX7_firstCross_13 hd C0 hA N ih N _ _ _ _ H locs ls hf hP hD hS (lv_sub hl [1, 2, 3, 0] rfl)

def fX7_firstCross (N : Nat) (x1 : Int32) (v_at : List Int32) : Option (Int32) :=
    fX7_firstCross_2 N N x1 (0 : Int32) v_at

set_option maxHeartbeats 4000000 in
set_option maxRecDepth 100000 in
theorem ctX7_firstCross {l : Launch} {D : va_G} {cI cL cS cH : ClassId} {a : Nat → Nat} {x1 : Int32} {v_list : List Int32} {v_found : List Int32} {v_at : List Int32} {r : Int32} {N d : Nat} (hd : 3 ≤ d) (hf : fX7_firstCross N x1 v_at = some r) : mm_Ct l yX7_firstCross cX7_firstCross 4 (some .int) d D (mm_T cI cL cS cH) [.ref (a 0), .int x1] (wd_X7 cI cL cS cH a v_list v_found v_at) (wd_X7 cI cL cS cH a v_list v_found v_at) (some (.int r)) := by
  refine mm_of (by decide) (Nat.le_of_ble_eq_true rfl) ?_
  intro p e s m args below meth c A H locs ls C0 hP hD hA hS hl
  have C0 : mm_Cx p s m args meth c RX7 cX7_firstCross 4 (some .int) D (mm_T cI cL cS cH) A := C0
  obtain ⟨hx, hb, hml, hown, hts, hr, hlocks, hK, hSt⟩ := id C0
  have hl : lv_has ls 4 [(0, .ref (a 0)), (1, .int x1)] := hl
  unfold fX7_firstCross at hf
  refine lv_iconst (v := 0) hx hb dX7_firstCross_0 (by decide) ?_
  refine lv_istore_n (lv' := [(2, .int (0 : Int32)), (0, .ref (a 0)), (1, .int x1)]) hx hb dX7_firstCross_1 rfl hl (by decide) rfl (fun ls hl => ?_)
  exact tX7_firstCross_2 hd C0 hA N  N _ _ _ H locs ls hf hP hD hS (lv_sub hl [1, 2, 0] rfl)

theorem dX7_bits_0 : decode cX7_bits 0 = .ok (.iconst 0, 1) := by decide +kernel
theorem dX7_bits_1 : decode cX7_bits 1 = .ok (.istore_n 2, 1) := by decide +kernel
theorem dX7_bits_2 : decode cX7_bits 2 = .ok (.iconst 0, 1) := by decide +kernel
theorem dX7_bits_3 : decode cX7_bits 3 = .ok (.istore_n 3, 1) := by decide +kernel
theorem dX7_bits_4 : decode cX7_bits 4 = .ok (.iload_n 3, 1) := by decide +kernel
theorem dX7_bits_5 : decode cX7_bits 5 = .ok (.iload_n 1, 1) := by decide +kernel
theorem dX7_bits_6 : decode cX7_bits 6 = .ok (.iconst 1, 1) := by decide +kernel
theorem dX7_bits_7 : decode cX7_bits 7 = .ok (.isub, 1) := by decide +kernel
theorem dX7_bits_8 : decode cX7_bits 8 = .ok (.if_icmp .ge 55, 3) := by decide +kernel
theorem dX7_bits_11 : decode cX7_bits 11 = .ok (.iload_n 3, 1) := by decide +kernel
theorem dX7_bits_12 : decode cX7_bits 12 = .ok (.iconst 2, 1) := by decide +kernel
theorem dX7_bits_13 : decode cX7_bits 13 = .ok (.irem, 1) := by decide +kernel
theorem dX7_bits_14 : decode cX7_bits 14 = .ok (.ifCond .ne 7, 3) := by decide +kernel
theorem dX7_bits_17 : decode cX7_bits 17 = .ok (.iconst 1, 1) := by decide +kernel
theorem dX7_bits_18 : decode cX7_bits 18 = .ok (.goto 4, 3) := by decide +kernel
theorem dX7_bits_21 : decode cX7_bits 21 = .ok (.iconst 0, 1) := by decide +kernel
theorem dX7_bits_22 : decode cX7_bits 22 = .ok (.istore 4, 2) := by decide +kernel
theorem dX7_bits_24 : decode cX7_bits 24 = .ok (.aload_n 0, 1) := by decide +kernel
theorem dX7_bits_25 : decode cX7_bits 25 = .ok (.getfield 18, 3) := by decide +kernel
theorem dX7_bits_28 : decode cX7_bits 28 = .ok (.iload_n 3, 1) := by decide +kernel
theorem dX7_bits_29 : decode cX7_bits 29 = .ok (.iaload, 1) := by decide +kernel
theorem dX7_bits_30 : decode cX7_bits 30 = .ok (.aload_n 0, 1) := by decide +kernel
theorem dX7_bits_31 : decode cX7_bits 31 = .ok (.getfield 18, 3) := by decide +kernel
theorem dX7_bits_34 : decode cX7_bits 34 = .ok (.iload_n 3, 1) := by decide +kernel
theorem dX7_bits_35 : decode cX7_bits 35 = .ok (.iconst 1, 1) := by decide +kernel
theorem dX7_bits_36 : decode cX7_bits 36 = .ok (.iadd, 1) := by decide +kernel
theorem dX7_bits_37 : decode cX7_bits 37 = .ok (.iaload, 1) := by decide +kernel
theorem dX7_bits_38 : decode cX7_bits 38 = .ok (.if_icmp .ge 7, 3) := by decide +kernel
theorem dX7_bits_41 : decode cX7_bits 41 = .ok (.iconst 1, 1) := by decide +kernel
theorem dX7_bits_42 : decode cX7_bits 42 = .ok (.goto 4, 3) := by decide +kernel
theorem dX7_bits_45 : decode cX7_bits 45 = .ok (.iconst 0, 1) := by decide +kernel
theorem dX7_bits_46 : decode cX7_bits 46 = .ok (.iload 4, 2) := by decide +kernel
theorem dX7_bits_48 : decode cX7_bits 48 = .ok (.if_icmp .ne 9, 3) := by decide +kernel
theorem dX7_bits_51 : decode cX7_bits 51 = .ok (.iload_n 2, 1) := by decide +kernel
theorem dX7_bits_52 : decode cX7_bits 52 = .ok (.iconst 1, 1) := by decide +kernel
theorem dX7_bits_53 : decode cX7_bits 53 = .ok (.iload_n 3, 1) := by decide +kernel
theorem dX7_bits_54 : decode cX7_bits 54 = .ok (.ishl, 1) := by decide +kernel
theorem dX7_bits_55 : decode cX7_bits 55 = .ok (.ior, 1) := by decide +kernel
theorem dX7_bits_56 : decode cX7_bits 56 = .ok (.istore_n 2, 1) := by decide +kernel
theorem dX7_bits_57 : decode cX7_bits 57 = .ok (.iinc 3 1, 3) := by decide +kernel
theorem dX7_bits_60 : decode cX7_bits 60 = .ok (.goto (-56), 3) := by decide +kernel
theorem dX7_bits_63 : decode cX7_bits 63 = .ok (.iload_n 2, 1) := by decide +kernel
theorem dX7_bits_64 : decode cX7_bits 64 = .ok (.ireturn, 1) := by decide +kernel
def fX7_bits_57 (N : Nat) (k_4 : Int32 → Int32 → Int32 → List Int32 → Option (Int32)) (x1 : Int32) (x2 : Int32) (x3 : Int32) (v_at : List Int32) : Option (Int32) :=
    mm_nm (x3 + (1 : Int32)) (fun (y_9 : Int32) =>
    k_4 x1 x2 y_9 v_at)

set_option maxHeartbeats 4000000 in
set_option maxRecDepth 100000 in
theorem tX7_bits_57 {p : Program} {l : Launch} {e : Env} {s : State} {m : MethodId} {args : Array Value} {below : List Frame} {meth : Method} {c : Code} {D : va_G} {cI cL cS cH : ClassId} {A : Nat → Prop} {d : Nat} {a : Nat → Nat} (hd : 1 ≤ d) (C0 : mm_Cx p s m args meth c RX7 cX7_bits 5 (some .int) D (mm_T cI cL cS cH) A) (hA : ∀ q, s.heap.size ≤ q → A q) {v_list : List Int32} {v_found : List Int32} {r : Int32} (N : Nat) {k_4 : Int32 → Int32 → Int32 → List Int32 → Option (Int32)} (hk_4 : ∀ (x1 : Int32) (x2 : Int32) (x3 : Int32) (v_at : List Int32) (H : Heap) (locs : List Loc) (ls : Array Slot), k_4 x1 x2 x3 v_at = some r → va_P D mm_cl (wd_X7 cI cL cS cH a v_list v_found v_at) H → va_D A (wd_X7 cI cL cS cH a v_list v_found v_at) → va_S A s.heap H locs → lv_has ls 5 [(0, .ref (a 0)), (1, .int x1), (2, .int x2), (3, .int x3)] → W p l e (mm_rr d) s m args below meth c H locs 0 0 (mm_Z below D A (wd_X7 cI cL cS cH a v_list v_found v_at) (some (.int r)) args s) (F0 m 4 ls [])) : ∀ (x1 : Int32) (x2 : Int32) (x3 : Int32) (v_at : List Int32) (H : Heap) (locs : List Loc) (ls : Array Slot), fX7_bits_57 N k_4 x1 x2 x3 v_at = some r → va_P D mm_cl (wd_X7 cI cL cS cH a v_list v_found v_at) H → va_D A (wd_X7 cI cL cS cH a v_list v_found v_at) → va_S A s.heap H locs → lv_has ls 5 [(0, .ref (a 0)), (1, .int x1), (2, .int x2), (3, .int x3)] → W p l e (mm_rr d) s m args below meth c H locs 0 0 (mm_Z below D A (wd_X7 cI cL cS cH a v_list v_found v_at) (some (.int r)) args s) (F0 m 57 ls []) := by
  obtain ⟨hx, hb, hml, hown, hts, hr, hlocks, hK, hSt⟩ := id C0
  intro x1 x2 x3 v_at H locs ls hf hP hD hS hl
  unfold fX7_bits_57 at hf
  obtain ⟨y_9, ey_9⟩ : ∃ z : Int32, z = x3 + (1 : Int32) := ⟨_, rfl⟩
  have hf := mm_nms hf ey_9
  refine lv_iinc (v := y_9) (lv' := [(3, .int y_9), (0, .ref (a 0)), (1, .int x1), (2, .int x2)]) hx hb dX7_bits_57 hl (k := 3) rfl (by rw [ey_9]; rfl) (by decide) rfl (fun ls hl => ?_)
  refine lv_goto (tgt := 4) hx hb dX7_bits_60 (by decide) ?_
  exact hk_4 _ _ _ _ H locs ls hf hP hD hS (lv_sub hl [1, 2, 3, 0] rfl)

def fX7_bits_46 (N : Nat) (k_4 : Int32 → Int32 → Int32 → List Int32 → Option (Int32)) (x1 : Int32) (x2 : Int32) (x3 : Int32) (x4 : Int32) (s0 : Int32) (v_at : List Int32) : Option (Int32) :=
    if s0 = x4 then
    (mm_nm ((x2 ||| ((1 : Int32) <<< (x3 &&& 31)))) (fun (y_8 : Int32) =>
    fX7_bits_57 N k_4 x1 y_8 x3 v_at))
    else (fX7_bits_57 N k_4 x1 x2 x3 v_at)

set_option maxHeartbeats 4000000 in
set_option maxRecDepth 100000 in
theorem tX7_bits_46 {p : Program} {l : Launch} {e : Env} {s : State} {m : MethodId} {args : Array Value} {below : List Frame} {meth : Method} {c : Code} {D : va_G} {cI cL cS cH : ClassId} {A : Nat → Prop} {d : Nat} {a : Nat → Nat} (hd : 1 ≤ d) (C0 : mm_Cx p s m args meth c RX7 cX7_bits 5 (some .int) D (mm_T cI cL cS cH) A) (hA : ∀ q, s.heap.size ≤ q → A q) {v_list : List Int32} {v_found : List Int32} {r : Int32} (N : Nat) {k_4 : Int32 → Int32 → Int32 → List Int32 → Option (Int32)} (hk_4 : ∀ (x1 : Int32) (x2 : Int32) (x3 : Int32) (v_at : List Int32) (H : Heap) (locs : List Loc) (ls : Array Slot), k_4 x1 x2 x3 v_at = some r → va_P D mm_cl (wd_X7 cI cL cS cH a v_list v_found v_at) H → va_D A (wd_X7 cI cL cS cH a v_list v_found v_at) → va_S A s.heap H locs → lv_has ls 5 [(0, .ref (a 0)), (1, .int x1), (2, .int x2), (3, .int x3)] → W p l e (mm_rr d) s m args below meth c H locs 0 0 (mm_Z below D A (wd_X7 cI cL cS cH a v_list v_found v_at) (some (.int r)) args s) (F0 m 4 ls [])) : ∀ (x1 : Int32) (x2 : Int32) (x3 : Int32) (x4 : Int32) (s0 : Int32) (v_at : List Int32) (H : Heap) (locs : List Loc) (ls : Array Slot), fX7_bits_46 N k_4 x1 x2 x3 x4 s0 v_at = some r → va_P D mm_cl (wd_X7 cI cL cS cH a v_list v_found v_at) H → va_D A (wd_X7 cI cL cS cH a v_list v_found v_at) → va_S A s.heap H locs → lv_has ls 5 [(0, .ref (a 0)), (1, .int x1), (2, .int x2), (3, .int x3), (4, .int x4)] → W p l e (mm_rr d) s m args below meth c H locs 0 0 (mm_Z below D A (wd_X7 cI cL cS cH a v_list v_found v_at) (some (.int r)) args s) (F0 m 46 ls [.int s0]) := by
  obtain ⟨hx, hb, hml, hown, hts, hr, hlocks, hK, hSt⟩ := id C0
  intro x1 x2 x3 x4 s0 v_at H locs ls hf hP hD hS hl
  unfold fX7_bits_46 at hf
  refine lv_iload hx hb dX7_bits_46 (lv_at hl 4 rfl) ?_
  refine lv_icmp_ne (tgt := 57) hx hb dX7_bits_48 (by decide) (fun c_7 => ?_) (fun c_7 => ?_)
  · have hf := mm_in hf c_7
    exact tX7_bits_57 hd C0 hA N hk_4 _ _ _ _ H locs ls hf hP hD hS (lv_sub hl [0, 1, 2, 3] rfl)
  · have hf := mm_ip hf c_7
    refine lv_iload_n hx hb dX7_bits_51 rfl (lv_at hl 2 rfl) ?_
    refine lv_iconst (v := 1) hx hb dX7_bits_52 (by decide) ?_
    refine lv_iload_n hx hb dX7_bits_53 rfl (lv_at hl 3 rfl) ?_
    refine lv_ishl hx hb dX7_bits_54 ?_
    refine lv_ior hx hb dX7_bits_55 ?_
    refine lv_topi (fun y_8 ey_8 => ?_)
    have hf := mm_nms hf ey_8
    refine lv_istore_n (lv' := [(2, .int y_8), (0, .ref (a 0)), (1, .int x1), (3, .int x3), (4, .int x4)]) hx hb dX7_bits_56 rfl hl (by decide) rfl (fun ls hl => ?_)
    exact tX7_bits_57 hd C0 hA N hk_4 _ _ _ _ H locs ls hf hP hD hS (lv_sub hl [1, 2, 0, 3] rfl)

def fX7_bits_22 (N : Nat) (k_4 : Int32 → Int32 → Int32 → List Int32 → Option (Int32)) (x1 : Int32) (x2 : Int32) (x3 : Int32) (s0 : Int32) (v_at : List Int32) : Option (Int32) :=
    mm_ck (mm_inb x3 v_at.length) (mm_ck (mm_inb (x3 + (1 : Int32)) v_at.length) (if (mm_ig v_at (x3 + (1 : Int32))) ≤ (mm_ig v_at x3) then
    (fX7_bits_46 N k_4 x1 x2 x3 s0 (0 : Int32) v_at)
    else (fX7_bits_46 N k_4 x1 x2 x3 s0 (1 : Int32) v_at)))

set_option maxHeartbeats 4000000 in
set_option maxRecDepth 100000 in
theorem tX7_bits_22 {p : Program} {l : Launch} {e : Env} {s : State} {m : MethodId} {args : Array Value} {below : List Frame} {meth : Method} {c : Code} {D : va_G} {cI cL cS cH : ClassId} {A : Nat → Prop} {d : Nat} {a : Nat → Nat} (hd : 1 ≤ d) (C0 : mm_Cx p s m args meth c RX7 cX7_bits 5 (some .int) D (mm_T cI cL cS cH) A) (hA : ∀ q, s.heap.size ≤ q → A q) {v_list : List Int32} {v_found : List Int32} {r : Int32} (N : Nat) {k_4 : Int32 → Int32 → Int32 → List Int32 → Option (Int32)} (hk_4 : ∀ (x1 : Int32) (x2 : Int32) (x3 : Int32) (v_at : List Int32) (H : Heap) (locs : List Loc) (ls : Array Slot), k_4 x1 x2 x3 v_at = some r → va_P D mm_cl (wd_X7 cI cL cS cH a v_list v_found v_at) H → va_D A (wd_X7 cI cL cS cH a v_list v_found v_at) → va_S A s.heap H locs → lv_has ls 5 [(0, .ref (a 0)), (1, .int x1), (2, .int x2), (3, .int x3)] → W p l e (mm_rr d) s m args below meth c H locs 0 0 (mm_Z below D A (wd_X7 cI cL cS cH a v_list v_found v_at) (some (.int r)) args s) (F0 m 4 ls [])) : ∀ (x1 : Int32) (x2 : Int32) (x3 : Int32) (s0 : Int32) (v_at : List Int32) (H : Heap) (locs : List Loc) (ls : Array Slot), fX7_bits_22 N k_4 x1 x2 x3 s0 v_at = some r → va_P D mm_cl (wd_X7 cI cL cS cH a v_list v_found v_at) H → va_D A (wd_X7 cI cL cS cH a v_list v_found v_at) → va_S A s.heap H locs → lv_has ls 5 [(0, .ref (a 0)), (1, .int x1), (2, .int x2), (3, .int x3)] → W p l e (mm_rr d) s m args below meth c H locs 0 0 (mm_Z below D A (wd_X7 cI cL cS cH a v_list v_found v_at) (some (.int r)) args s) (F0 m 22 ls [.int s0]) := by
  obtain ⟨hx, hb, hml, hown, hts, hr, hlocks, hK, hSt⟩ := id C0
  intro x1 x2 x3 s0 v_at H locs ls hf hP hD hS hl
  unfold fX7_bits_22 at hf
  refine lv_istore (lv' := [(4, .int s0), (0, .ref (a 0)), (1, .int x1), (2, .int x2), (3, .int x3)]) hx hb dX7_bits_22 hl (by decide) rfl (fun ls hl => ?_)
  refine lv_aload_n hx hb dX7_bits_24 rfl (lv_at hl 1 rfl) ?_
  refine mm_get C0 hP iw_X7 0 rfl rfl 2 (by decide) fl_X7_18 rfl dX7_bits_25 ?_
  refine lv_iload_n hx hb dX7_bits_28 rfl (lv_at hl 4 rfl) ?_
  obtain ⟨h_4, hf⟩ := mm_cks hf
  refine mm_iald C0 hP 3 rfl h_4 dX7_bits_29 ?_
  refine lv_aload_n hx hb dX7_bits_30 rfl (lv_at hl 1 rfl) ?_
  refine mm_get C0 hP iw_X7 0 rfl rfl 2 (by decide) fl_X7_18 rfl dX7_bits_31 ?_
  refine lv_iload_n hx hb dX7_bits_34 rfl (lv_at hl 4 rfl) ?_
  refine lv_iconst (v := 1) hx hb dX7_bits_35 (by decide) ?_
  refine lv_iadd hx hb dX7_bits_36 ?_
  obtain ⟨h_5, hf⟩ := mm_cks hf
  refine mm_iald C0 hP 3 rfl h_5 dX7_bits_37 ?_
  refine lv_icmp_ge (tgt := 45) hx hb dX7_bits_38 (by decide) (fun c_6 => ?_) (fun c_6 => ?_)
  · have hf := mm_ip hf c_6
    refine lv_iconst (v := 0) hx hb dX7_bits_45 (by decide) ?_
    exact tX7_bits_46 hd C0 hA N hk_4 _ _ _ _ _ _ H locs ls hf hP hD hS (lv_sub hl [1, 2, 3, 4, 0] rfl)
  · have hf := mm_in hf c_6
    refine lv_iconst (v := 1) hx hb dX7_bits_41 (by decide) ?_
    refine lv_goto (tgt := 46) hx hb dX7_bits_42 (by decide) ?_
    exact tX7_bits_46 hd C0 hA N hk_4 _ _ _ _ _ _ H locs ls hf hP hD hS (lv_sub hl [1, 2, 3, 4, 0] rfl)

def fX7_bits_4 (N : Nat)  : Nat → Int32 → Int32 → Int32 → List Int32 → Option (Int32)
  | 0 => fun _ _ _ _ => none
  | n + 1 => fun x1 x2 x3 v_at =>
    if (x1 - (1 : Int32)) ≤ x3 then
    (some (x2))
    else (mm_ck (mm_nz (2 : Int32)) (if (mm_rem x3 (2 : Int32)) = 0 then
    (fX7_bits_22 N (fX7_bits_4 N n) x1 x2 x3 (1 : Int32) v_at)
    else (fX7_bits_22 N (fX7_bits_4 N n) x1 x2 x3 (0 : Int32) v_at)))

set_option maxHeartbeats 4000000 in
set_option maxRecDepth 100000 in
theorem tX7_bits_4 {p : Program} {l : Launch} {e : Env} {s : State} {m : MethodId} {args : Array Value} {below : List Frame} {meth : Method} {c : Code} {D : va_G} {cI cL cS cH : ClassId} {A : Nat → Prop} {d : Nat} {a : Nat → Nat} (hd : 1 ≤ d) (C0 : mm_Cx p s m args meth c RX7 cX7_bits 5 (some .int) D (mm_T cI cL cS cH) A) (hA : ∀ q, s.heap.size ≤ q → A q) {v_list : List Int32} {v_found : List Int32} {r : Int32} (N : Nat)  : ∀ (n : Nat), ∀ (x1 : Int32) (x2 : Int32) (x3 : Int32) (v_at : List Int32) (H : Heap) (locs : List Loc) (ls : Array Slot), fX7_bits_4 N n x1 x2 x3 v_at = some r → va_P D mm_cl (wd_X7 cI cL cS cH a v_list v_found v_at) H → va_D A (wd_X7 cI cL cS cH a v_list v_found v_at) → va_S A s.heap H locs → lv_has ls 5 [(0, .ref (a 0)), (1, .int x1), (2, .int x2), (3, .int x3)] → W p l e (mm_rr d) s m args below meth c H locs 0 0 (mm_Z below D A (wd_X7 cI cL cS cH a v_list v_found v_at) (some (.int r)) args s) (F0 m 4 ls []) := by
  obtain ⟨hx, hb, hml, hown, hts, hr, hlocks, hK, hSt⟩ := id C0
  intro n
  induction n with
  | zero =>
    intro x1 x2 x3 v_at H locs ls hf
    cases (show none = some _ from hf)
  | succ n ih =>
    intro x1 x2 x3 v_at H locs ls hf hP hD hS hl
    unfold fX7_bits_4 at hf
    refine lv_iload_n hx hb dX7_bits_4 rfl (lv_at hl 3 rfl) ?_
    refine lv_iload_n hx hb dX7_bits_5 rfl (lv_at hl 1 rfl) ?_
    refine lv_iconst (v := 1) hx hb dX7_bits_6 (by decide) ?_
    refine lv_isub hx hb dX7_bits_7 ?_
    refine lv_icmp_ge (tgt := 63) hx hb dX7_bits_8 (by decide) (fun c_1 => ?_) (fun c_1 => ?_)
    · have hf := mm_ip hf c_1
      refine lv_iload_n hx hb dX7_bits_63 rfl (lv_at hl 2 rfl) ?_
      obtain rfl := mm_inj1 hf
      exact mm_iret C0 hP hD hS dX7_bits_64
    · have hf := mm_in hf c_1
      refine lv_iload_n hx hb dX7_bits_11 rfl (lv_at hl 3 rfl) ?_
      refine lv_iconst (v := 2) hx hb dX7_bits_12 (by decide) ?_
      obtain ⟨h_2, hf⟩ := mm_cks hf
      refine lv_irem hx hb dX7_bits_13 (mm_nzs h_2) ?_
      refine lv_if_ne (tgt := 21) hx hb dX7_bits_14 (by decide) (fun c_3 => ?_) (fun c_3 => ?_)
      · have hf := mm_in hf c_3
        refine lv_iconst (v := 0) hx hb dX7_bits_21 (by decide) ?_
        exact tX7_bits_22 hd C0 hA N ih _ _ _ _ _ H locs ls hf hP hD hS (lv_sub hl [0, 1, 2, 3] rfl)
      · have hf := mm_ip hf c_3
        refine lv_iconst (v := 1) hx hb dX7_bits_17 (by decide) ?_
        refine lv_goto (tgt := 22) hx hb dX7_bits_18 (by decide) ?_
        exact tX7_bits_22 hd C0 hA N ih _ _ _ _ _ H locs ls hf hP hD hS (lv_sub hl [0, 1, 2, 3] rfl)

def fX7_bits (N : Nat) (x1 : Int32) (v_at : List Int32) : Option (Int32) :=
    fX7_bits_4 N N x1 (0 : Int32) (0 : Int32) v_at

set_option maxHeartbeats 4000000 in
set_option maxRecDepth 100000 in
theorem ctX7_bits {l : Launch} {D : va_G} {cI cL cS cH : ClassId} {a : Nat → Nat} {x1 : Int32} {v_list : List Int32} {v_found : List Int32} {v_at : List Int32} {r : Int32} {N d : Nat} (hd : 1 ≤ d) (hf : fX7_bits N x1 v_at = some r) : mm_Ct l yX7_bits cX7_bits 5 (some .int) d D (mm_T cI cL cS cH) [.ref (a 0), .int x1] (wd_X7 cI cL cS cH a v_list v_found v_at) (wd_X7 cI cL cS cH a v_list v_found v_at) (some (.int r)) := by
  refine mm_of (by decide) (Nat.le_of_ble_eq_true rfl) ?_
  intro p e s m args below meth c A H locs ls C0 hP hD hA hS hl
  have C0 : mm_Cx p s m args meth c RX7 cX7_bits 5 (some .int) D (mm_T cI cL cS cH) A := C0
  obtain ⟨hx, hb, hml, hown, hts, hr, hlocks, hK, hSt⟩ := id C0
  have hl : lv_has ls 5 [(0, .ref (a 0)), (1, .int x1)] := hl
  unfold fX7_bits at hf
  refine lv_iconst (v := 0) hx hb dX7_bits_0 (by decide) ?_
  refine lv_istore_n (lv' := [(2, .int (0 : Int32)), (0, .ref (a 0)), (1, .int x1)]) hx hb dX7_bits_1 rfl hl (by decide) rfl (fun ls hl => ?_)
  refine lv_iconst (v := 0) hx hb dX7_bits_2 (by decide) ?_
  refine lv_istore_n (lv' := [(3, .int (0 : Int32)), (2, .int (0 : Int32)), (0, .ref (a 0)), (1, .int x1)]) hx hb dX7_bits_3 rfl hl (by decide) rfl (fun ls hl => ?_)
  exact tX7_bits_4 hd C0 hA N  N _ _ _ _ H locs ls hf hP hD hS (lv_sub hl [2, 3, 1, 0] rfl)

theorem dX7_isLaid_0 : decode cX7_isLaid 0 = .ok (.iload_n 2, 1) := by decide +kernel
theorem dX7_isLaid_1 : decode cX7_isLaid 1 = .ok (.ifCond .lt 34, 3) := by decide +kernel
theorem dX7_isLaid_4 : decode cX7_isLaid 4 = .ok (.iload_n 2, 1) := by decide +kernel
theorem dX7_isLaid_5 : decode cX7_isLaid 5 = .ok (.iload_n 1, 1) := by decide +kernel
theorem dX7_isLaid_6 : decode cX7_isLaid 6 = .ok (.iconst 1, 1) := by decide +kernel
theorem dX7_isLaid_7 : decode cX7_isLaid 7 = .ok (.isub, 1) := by decide +kernel
theorem dX7_isLaid_8 : decode cX7_isLaid 8 = .ok (.if_icmp .ge 27, 3) := by decide +kernel
theorem dX7_isLaid_11 : decode cX7_isLaid 11 = .ok (.aload_n 0, 1) := by decide +kernel
theorem dX7_isLaid_12 : decode cX7_isLaid 12 = .ok (.getfield 18, 3) := by decide +kernel
theorem dX7_isLaid_15 : decode cX7_isLaid 15 = .ok (.iload_n 2, 1) := by decide +kernel
theorem dX7_isLaid_16 : decode cX7_isLaid 16 = .ok (.iaload, 1) := by decide +kernel
theorem dX7_isLaid_17 : decode cX7_isLaid 17 = .ok (.ifCond .lt 18, 3) := by decide +kernel
theorem dX7_isLaid_20 : decode cX7_isLaid 20 = .ok (.aload_n 0, 1) := by decide +kernel
theorem dX7_isLaid_21 : decode cX7_isLaid 21 = .ok (.getfield 18, 3) := by decide +kernel
theorem dX7_isLaid_24 : decode cX7_isLaid 24 = .ok (.iload_n 2, 1) := by decide +kernel
theorem dX7_isLaid_25 : decode cX7_isLaid 25 = .ok (.iconst 1, 1) := by decide +kernel
theorem dX7_isLaid_26 : decode cX7_isLaid 26 = .ok (.iadd, 1) := by decide +kernel
theorem dX7_isLaid_27 : decode cX7_isLaid 27 = .ok (.iaload, 1) := by decide +kernel
theorem dX7_isLaid_28 : decode cX7_isLaid 28 = .ok (.ifCond .lt 7, 3) := by decide +kernel
theorem dX7_isLaid_31 : decode cX7_isLaid 31 = .ok (.iconst 1, 1) := by decide +kernel
theorem dX7_isLaid_32 : decode cX7_isLaid 32 = .ok (.goto 4, 3) := by decide +kernel
theorem dX7_isLaid_35 : decode cX7_isLaid 35 = .ok (.iconst 0, 1) := by decide +kernel
theorem dX7_isLaid_36 : decode cX7_isLaid 36 = .ok (.ireturn, 1) := by decide +kernel
def fX7_isLaid (N : Nat) (x1 : Int32) (x2 : Int32) (v_at : List Int32) : Option (Bool) :=
    if x2 < 0 then
    (some (false))
    else (if (x1 - (1 : Int32)) ≤ x2 then
    (some (false))
    else (mm_ck (mm_inb x2 v_at.length) (if (mm_ig v_at x2) < 0 then
    (some (false))
    else (mm_ck (mm_inb (x2 + (1 : Int32)) v_at.length) (if (mm_ig v_at (x2 + (1 : Int32))) < 0 then
    (some (false))
    else (some (true)))))))

set_option maxHeartbeats 4000000 in
set_option maxRecDepth 100000 in
theorem ctX7_isLaid {l : Launch} {D : va_G} {cI cL cS cH : ClassId} {a : Nat → Nat} {x1 : Int32} {x2 : Int32} {v_list : List Int32} {v_found : List Int32} {v_at : List Int32} {r : Bool} {N d : Nat} (hd : 1 ≤ d) (hf : fX7_isLaid N x1 x2 v_at = some r) : mm_Ct l yX7_isLaid cX7_isLaid 3 (some .boolean) d D (mm_T cI cL cS cH) [.ref (a 0), .int x1, .int x2] (wd_X7 cI cL cS cH a v_list v_found v_at) (wd_X7 cI cL cS cH a v_list v_found v_at) (some (.int (mm_b r))) := by
  refine mm_of (by decide) (Nat.le_of_ble_eq_true rfl) ?_
  intro p e s m args below meth c A H locs ls C0 hP hD hA hS hl
  have C0 : mm_Cx p s m args meth c RX7 cX7_isLaid 3 (some .boolean) D (mm_T cI cL cS cH) A := C0
  obtain ⟨hx, hb, hml, hown, hts, hr, hlocks, hK, hSt⟩ := id C0
  have hl : lv_has ls 3 [(0, .ref (a 0)), (1, .int x1), (2, .int x2)] := hl
  unfold fX7_isLaid at hf
  refine lv_iload_n hx hb dX7_isLaid_0 rfl (lv_at hl 2 rfl) ?_
  refine lv_if_lt (tgt := 35) hx hb dX7_isLaid_1 (by decide) (fun c_1 => ?_) (fun c_1 => ?_)
  · have hf := mm_ip hf c_1
    refine lv_iconst (v := 0) hx hb dX7_isLaid_35 (by decide) ?_
    obtain rfl := mm_inj1 hf
    exact mm_zret (v := false) C0 hP hD hS dX7_isLaid_36 (by decide)
  · have hf := mm_in hf c_1
    refine lv_iload_n hx hb dX7_isLaid_4 rfl (lv_at hl 2 rfl) ?_
    refine lv_iload_n hx hb dX7_isLaid_5 rfl (lv_at hl 1 rfl) ?_
    refine lv_iconst (v := 1) hx hb dX7_isLaid_6 (by decide) ?_
    refine lv_isub hx hb dX7_isLaid_7 ?_
    refine lv_icmp_ge (tgt := 35) hx hb dX7_isLaid_8 (by decide) (fun c_2 => ?_) (fun c_2 => ?_)
    · have hf := mm_ip hf c_2
      refine lv_iconst (v := 0) hx hb dX7_isLaid_35 (by decide) ?_
      obtain rfl := mm_inj1 hf
      exact mm_zret (v := false) C0 hP hD hS dX7_isLaid_36 (by decide)
    · have hf := mm_in hf c_2
      refine lv_aload_n hx hb dX7_isLaid_11 rfl (lv_at hl 0 rfl) ?_
      refine mm_get C0 hP iw_X7 0 rfl rfl 2 (by decide) fl_X7_18 rfl dX7_isLaid_12 ?_
      refine lv_iload_n hx hb dX7_isLaid_15 rfl (lv_at hl 2 rfl) ?_
      obtain ⟨h_3, hf⟩ := mm_cks hf
      refine mm_iald C0 hP 3 rfl h_3 dX7_isLaid_16 ?_
      refine lv_if_lt (tgt := 35) hx hb dX7_isLaid_17 (by decide) (fun c_4 => ?_) (fun c_4 => ?_)
      · have hf := mm_ip hf c_4
        refine lv_iconst (v := 0) hx hb dX7_isLaid_35 (by decide) ?_
        obtain rfl := mm_inj1 hf
        exact mm_zret (v := false) C0 hP hD hS dX7_isLaid_36 (by decide)
      · have hf := mm_in hf c_4
        refine lv_aload_n hx hb dX7_isLaid_20 rfl (lv_at hl 0 rfl) ?_
        refine mm_get C0 hP iw_X7 0 rfl rfl 2 (by decide) fl_X7_18 rfl dX7_isLaid_21 ?_
        refine lv_iload_n hx hb dX7_isLaid_24 rfl (lv_at hl 2 rfl) ?_
        refine lv_iconst (v := 1) hx hb dX7_isLaid_25 (by decide) ?_
        refine lv_iadd hx hb dX7_isLaid_26 ?_
        obtain ⟨h_5, hf⟩ := mm_cks hf
        refine mm_iald C0 hP 3 rfl h_5 dX7_isLaid_27 ?_
        refine lv_if_lt (tgt := 35) hx hb dX7_isLaid_28 (by decide) (fun c_6 => ?_) (fun c_6 => ?_)
        · have hf := mm_ip hf c_6
          refine lv_iconst (v := 0) hx hb dX7_isLaid_35 (by decide) ?_
          obtain rfl := mm_inj1 hf
          exact mm_zret (v := false) C0 hP hD hS dX7_isLaid_36 (by decide)
        · have hf := mm_in hf c_6
          refine lv_iconst (v := 1) hx hb dX7_isLaid_31 (by decide) ?_
          refine lv_goto (tgt := 36) hx hb dX7_isLaid_32 (by decide) ?_
          obtain rfl := mm_inj1 hf
          exact mm_zret (v := true) C0 hP hD hS dX7_isLaid_36 (by decide)

