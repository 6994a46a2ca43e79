/-! system: X3_append, X8_isPlannedFold, X3_appendFrom, X3_tryFirst, X3_tryInWind, X4_begin, X4_halvings, X4_canEnd, X4_isLessv3 -/
theorem dX3_append_0 : decode cX3_append 0 = .ok (.aload_n 0, 1) := by decide +kernel
theorem dX3_append_1 : decode cX3_append 1 = .ok (.getfield 25, 3) := by decide +kernel
theorem dX3_append_4 : decode cX3_append 4 = .ok (.bipush 12, 2) := by decide +kernel
theorem dX3_append_6 : decode cX3_append 6 = .ok (.if_icmp .lt 5, 3) := by decide +kernel
theorem dX3_append_9 : decode cX3_append 9 = .ok (.iconst 0, 1) := by decide +kernel
theorem dX3_append_10 : decode cX3_append 10 = .ok (.ireturn, 1) := by decide +kernel
theorem dX3_append_11 : decode cX3_append 11 = .ok (.aload_n 0, 1) := by decide +kernel
theorem dX3_append_12 : decode cX3_append 12 = .ok (.getfield 18, 3) := by decide +kernel
theorem dX3_append_15 : decode cX3_append 15 = .ok (.aload_n 0, 1) := by decide +kernel
theorem dX3_append_16 : decode cX3_append 16 = .ok (.getfield 25, 3) := by decide +kernel
theorem dX3_append_19 : decode cX3_append 19 = .ok (.iload_n 1, 1) := by decide +kernel
theorem dX3_append_20 : decode cX3_append 20 = .ok (.iastore, 1) := by decide +kernel
theorem dX3_append_21 : decode cX3_append 21 = .ok (.aload_n 0, 1) := by decide +kernel
theorem dX3_append_22 : decode cX3_append 22 = .ok (.getfield 22, 3) := by decide +kernel
theorem dX3_append_25 : decode cX3_append 25 = .ok (.aload_n 0, 1) := by decide +kernel
theorem dX3_append_26 : decode cX3_append 26 = .ok (.getfield 25, 3) := by decide +kernel
theorem dX3_append_29 : decode cX3_append 29 = .ok (.iload_n 2, 1) := by decide +kernel
theorem dX3_append_30 : decode cX3_append 30 = .ok (.iastore, 1) := by decide +kernel
theorem dX3_append_31 : decode cX3_append 31 = .ok (.aload_n 0, 1) := by decide +kernel
theorem dX3_append_32 : decode cX3_append 32 = .ok (.dup, 1) := by decide +kernel
theorem dX3_append_33 : decode cX3_append 33 = .ok (.getfield 25, 3) := by decide +kernel
theorem dX3_append_36 : decode cX3_append 36 = .ok (.iconst 1, 1) := by decide +kernel
theorem dX3_append_37 : decode cX3_append 37 = .ok (.iadd, 1) := by decide +kernel
theorem dX3_append_38 : decode cX3_append 38 = .ok (.putfield 25, 3) := by decide +kernel
theorem dX3_append_41 : decode cX3_append 41 = .ok (.iconst 1, 1) := by decide +kernel
theorem dX3_append_42 : decode cX3_append 42 = .ok (.ireturn, 1) := by decide +kernel
def fX3_append (N : Nat) (x1 : Int32) (x2 : Int32) (v_size : Int32) (v_lines : List Int32) (v_ways : List Int32) : Option (Bool × Int32 × List Int32 × List Int32) :=
    if v_size < (12 : Int32) then
    (mm_ck (mm_inb v_size v_lines.length) (mm_nm (mm_is v_lines v_size x1) (fun (l_3 : List Int32) =>
    mm_ck (mm_inb v_size v_ways.length) (mm_nm (mm_is v_ways v_size x2) (fun (l_5 : List Int32) =>
    mm_nm ((v_size + (1 : Int32))) (fun (y_6 : Int32) =>
    some (true, y_6, l_3, l_5)))))))
    else (some (false, v_size, v_lines, v_ways))

set_option maxHeartbeats 4000000 in
set_option maxRecDepth 100000 in
theorem ctX3_append {l : Launch} {D : va_G} {cI cL cS cH : ClassId} {a : Nat → Nat} {x1 : Int32} {x2 : Int32} {v_size : Int32} {v_trial_rows : Int32} {v_trial_cols : Int32} {v_trial_high : Int32} {v_trial_wide : Int32} {v_trial_folds : Int32} {v_trial_wrong : Int32} {v_trial_more : Int32} {v_trial_rowOf : List Int32} {v_trial_colOf : List Int32} {v_trial_below : List Int32} {v_trial_face : List Int32} {v_trial_worn : List Int32} {v_trial_last : List Int32} {v_trial_bend : List Int32} {v_trial_tall : List Int32} {v_lines : List Int32} {v_ways : List Int32} {r : Bool} {w_size : Int32} {w_lines : List Int32} {w_ways : List Int32} {N d : Nat} (hd : 1 ≤ d) (hf : fX3_append N x1 x2 v_size v_lines v_ways = some (r, w_size, w_lines, w_ways)) : mm_Ct l yX3_append cX3_append 3 (some .boolean) d D (mm_T cI cL cS cH) [.ref (a 0), .int x1, .int x2] (wd_X3 cI cL cS cH a v_size v_trial_rows v_trial_cols v_trial_high v_trial_wide v_trial_folds v_trial_wrong v_trial_more v_trial_rowOf v_trial_colOf v_trial_below v_trial_face v_trial_worn v_trial_last v_trial_bend v_trial_tall v_lines v_ways) (wd_X3 cI cL cS cH a w_size v_trial_rows v_trial_cols v_trial_high v_trial_wide v_trial_folds v_trial_wrong v_trial_more v_trial_rowOf v_trial_colOf v_trial_below v_trial_face v_trial_worn v_trial_last v_trial_bend v_trial_tall w_lines w_ways) (some (.int (mm_b r))) := by
  refine mm_of (by decide) (Nat.le_of_ble_eq_true rfl) ?_
  intro p e s m args below meth c A H locs ls C0 hP hD hA hS hl
  have C0 : mm_Cx p s m args meth c RX3 cX3_append 3 (some .boolean) D (mm_T cI cL cS cH) A := C0
  obtain ⟨hx, hb, hml, hown, hts, hr, hlocks, hK, hSt⟩ := id C0
  have hl : lv_has ls 3 [(0, .ref (a 0)), (1, .int x1), (2, .int x2)] := hl
  unfold fX3_append at hf
  refine lv_aload_n hx hb dX3_append_0 rfl (lv_at hl 0 rfl) ?_
  refine mm_get C0 hP iw_X3 0 rfl rfl 0 (by decide) fl_X3_25 rfl dX3_append_1 ?_
  refine lv_bipush (v := 12) hx hb dX3_append_4 (by decide) ?_
  refine lv_icmp_lt (tgt := 11) hx hb dX3_append_6 (by decide) (fun c_1 => ?_) (fun c_1 => ?_)
  · have hf := mm_ip hf c_1
    refine lv_aload_n hx hb dX3_append_11 rfl (lv_at hl 0 rfl) ?_
    refine mm_get C0 hP iw_X3 0 rfl rfl 2 (by decide) fl_X3_18 rfl dX3_append_12 ?_
    refine lv_aload_n hx hb dX3_append_15 rfl (lv_at hl 0 rfl) ?_
    refine mm_get C0 hP iw_X3 0 rfl rfl 0 (by decide) fl_X3_25 rfl dX3_append_16 ?_
    refine lv_iload_n hx hb dX3_append_19 rfl (lv_at hl 1 rfl) ?_
    obtain ⟨h_2, hf⟩ := mm_cks hf
    refine mm_iast C0 hP hD hS 10 rfl h_2 dX3_append_20 (w2 := (wd_X3 cI cL cS cH a v_size v_trial_rows v_trial_cols v_trial_high v_trial_wide v_trial_folds v_trial_wrong v_trial_more v_trial_rowOf v_trial_colOf v_trial_below v_trial_face v_trial_worn v_trial_last v_trial_bend v_trial_tall (mm_is v_lines v_size x1) v_ways)) rfl (fun H locs hP hD hS => ?_)
    generalize el_3 : (mm_is v_lines v_size x1) = l_3 at hP hD
    have hf := mm_nms hf el_3.symm
    refine lv_aload_n hx hb dX3_append_21 rfl (lv_at hl 0 rfl) ?_
    refine mm_get C0 hP iw_X3 0 rfl rfl 3 (by decide) fl_X3_22 rfl dX3_append_22 ?_
    refine lv_aload_n hx hb dX3_append_25 rfl (lv_at hl 0 rfl) ?_
    refine mm_get C0 hP iw_X3 0 rfl rfl 0 (by decide) fl_X3_25 rfl dX3_append_26 ?_
    refine lv_iload_n hx hb dX3_append_29 rfl (lv_at hl 2 rfl) ?_
    obtain ⟨h_4, hf⟩ := mm_cks hf
    refine mm_iast C0 hP hD hS 11 rfl h_4 dX3_append_30 (w2 := (wd_X3 cI cL cS cH a v_size v_trial_rows v_trial_cols v_trial_high v_trial_wide v_trial_folds v_trial_wrong v_trial_more v_trial_rowOf v_trial_colOf v_trial_below v_trial_face v_trial_worn v_trial_last v_trial_bend v_trial_tall l_3 (mm_is v_ways v_size x2))) rfl (fun H locs hP hD hS => ?_)
    generalize el_5 : (mm_is v_ways v_size x2) = l_5 at hP hD
    have hf := mm_nms hf el_5.symm
    refine lv_aload_n hx hb dX3_append_31 rfl (lv_at hl 0 rfl) ?_
    refine lv_dup hx hb dX3_append_32 rfl ?_
    refine mm_get C0 hP iw_X3 0 rfl rfl 0 (by decide) fl_X3_25 rfl dX3_append_33 ?_
    refine lv_iconst (v := 1) hx hb dX3_append_36 (by decide) ?_
    refine lv_iadd hx hb dX3_append_37 ?_
    refine lv_topi (fun y_6 ey_6 => ?_)
    have hf := mm_nms hf ey_6
    refine mm_put C0 hP hD hS iw_X3 tyX3 tyX3_ok nmX3 0 rfl rfl 0 (by decide) fl_X3_25 rfl rfl rfl (Nat.le_of_ble_eq_true rfl) dX3_append_38 (w2 := (wd_X3 cI cL cS cH a y_6 v_trial_rows v_trial_cols v_trial_high v_trial_wide v_trial_folds v_trial_wrong v_trial_more v_trial_rowOf v_trial_colOf v_trial_below v_trial_face v_trial_worn v_trial_last v_trial_bend v_trial_tall l_3 l_5)) rfl (fun H locs hP hD hS => ?_)
    refine lv_iconst (v := 1) hx hb dX3_append_41 (by decide) ?_
    apply mm_sub4 hf
    exact mm_zret (v := true) C0 hP hD hS dX3_append_42 (by decide)
  · have hf := mm_in hf c_1
    refine lv_iconst (v := 0) hx hb dX3_append_9 (by decide) ?_
    apply mm_sub4 hf
    exact mm_zret (v := false) C0 hP hD hS dX3_append_10 (by decide)

theorem dX8_isPlannedFold_0 : decode cX8_isPlannedFold 0 = .ok (.lload_n 0, 1) := by decide +kernel
theorem dX8_isPlannedFold_1 : decode cX8_isPlannedFold 1 = .ok (.lconst 1, 1) := by decide +kernel
theorem dX8_isPlannedFold_2 : decode cX8_isPlannedFold 2 = .ok (.lcmp, 1) := by decide +kernel
theorem dX8_isPlannedFold_3 : decode cX8_isPlannedFold 3 = .ok (.ifCond .lt 29, 3) := by decide +kernel
theorem dX8_isPlannedFold_6 : decode cX8_isPlannedFold 6 = .ok (.lload_n 0, 1) := by decide +kernel
theorem dX8_isPlannedFold_7 : decode cX8_isPlannedFold 7 = .ok (.ldc2_w 324, 3) := by decide +kernel
theorem dX8_isPlannedFold_10 : decode cX8_isPlannedFold 10 = .ok (.lcmp, 1) := by decide +kernel
theorem dX8_isPlannedFold_11 : decode cX8_isPlannedFold 11 = .ok (.ifCond .gt 21, 3) := by decide +kernel
theorem dX8_isPlannedFold_14 : decode cX8_isPlannedFold 14 = .ok (.lload_n 2, 1) := by decide +kernel
theorem dX8_isPlannedFold_15 : decode cX8_isPlannedFold 15 = .ok (.lconst 0, 1) := by decide +kernel
theorem dX8_isPlannedFold_16 : decode cX8_isPlannedFold 16 = .ok (.lcmp, 1) := by decide +kernel
theorem dX8_isPlannedFold_17 : decode cX8_isPlannedFold 17 = .ok (.ifCond .lt 15, 3) := by decide +kernel
theorem dX8_isPlannedFold_20 : decode cX8_isPlannedFold 20 = .ok (.lload_n 2, 1) := by decide +kernel
theorem dX8_isPlannedFold_21 : decode cX8_isPlannedFold 21 = .ok (.ldc2_w 326, 3) := by decide +kernel
theorem dX8_isPlannedFold_24 : decode cX8_isPlannedFold 24 = .ok (.lcmp, 1) := by decide +kernel
theorem dX8_isPlannedFold_25 : decode cX8_isPlannedFold 25 = .ok (.ifCond .ge 7, 3) := by decide +kernel
theorem dX8_isPlannedFold_28 : decode cX8_isPlannedFold 28 = .ok (.iconst 1, 1) := by decide +kernel
theorem dX8_isPlannedFold_29 : decode cX8_isPlannedFold 29 = .ok (.goto 4, 3) := by decide +kernel
theorem dX8_isPlannedFold_32 : decode cX8_isPlannedFold 32 = .ok (.iconst 0, 1) := by decide +kernel
theorem dX8_isPlannedFold_33 : decode cX8_isPlannedFold 33 = .ok (.ireturn, 1) := by decide +kernel
def fX8_isPlannedFold (N : Nat) (x0 : Int64) (x2 : Int64) : Option (Bool) :=
    if (lg_cmp x0 (1 : Int64)) < 0 then
    (some (false))
    else (if 0 < (lg_cmp x0 (7 : Int64)) then
    (some (false))
    else (if (lg_cmp x2 (0 : Int64)) < 0 then
    (some (false))
    else (if 0 ≤ (lg_cmp x2 (8 : Int64)) then
    (some (false))
    else (some (true)))))

set_option maxHeartbeats 4000000 in
set_option maxRecDepth 100000 in
theorem ctX8_isPlannedFold {l : Launch} {D : va_G} {cI cL cS cH : ClassId} {x0 : Int64} {x2 : Int64}  {r : Bool} {N d : Nat} (hd : 1 ≤ d) (hf : fX8_isPlannedFold N x0 x2 = some r) : mm_Ct l yX8_isPlannedFold cX8_isPlannedFold 4 (some .boolean) d D (mm_T cI cL cS cH) [.long x0, .long x2] ([] : va_W) ([] : va_W) (some (.int (mm_b r))) := by
  refine mm_of (by decide) (Nat.le_of_ble_eq_true rfl) ?_
  intro p e s m args below meth c A H locs ls C0 hP hD hA hS hl
  have C0 : mm_Cx p s m args meth c RX8 cX8_isPlannedFold 4 (some .boolean) D (mm_T cI cL cS cH) A := C0
  obtain ⟨hx, hb, hml, hown, hts, hr, hlocks, hK, hSt⟩ := id C0
  have hl : lv_has ls 4 [(0, .long x0), (2, .long x2)] := hl
  unfold fX8_isPlannedFold at hf
  refine lv_lload_n hx hb dX8_isPlannedFold_0 rfl (lv_at hl 0 rfl) ?_
  refine lv_lconst (v := 1) hx hb dX8_isPlannedFold_1 (by decide) ?_
  refine W.lcmp hx hb dX8_isPlannedFold_2 ?_
  refine lv_if_lt (tgt := 32) hx hb dX8_isPlannedFold_3 (by decide) (fun c_1 => ?_) (fun c_1 => ?_)
  · have hf := mm_ip hf c_1
    refine lv_iconst (v := 0) hx hb dX8_isPlannedFold_32 (by decide) ?_
    obtain rfl := mm_inj1 hf
    exact mm_zret (v := false) C0 hP hD hS dX8_isPlannedFold_33 (by decide)
  · have hf := mm_in hf c_1
    refine lv_lload_n hx hb dX8_isPlannedFold_6 rfl (lv_at hl 0 rfl) ?_
    refine lv_ldc2 hx hb hown (hts _ kc_X8_324) dX8_isPlannedFold_7 ?_
    refine W.lcmp hx hb dX8_isPlannedFold_10 ?_
    refine lv_if_gt (tgt := 32) hx hb dX8_isPlannedFold_11 (by decide) (fun c_2 => ?_) (fun c_2 => ?_)
    · have hf := mm_ip hf c_2
      refine lv_iconst (v := 0) hx hb dX8_isPlannedFold_32 (by decide) ?_
      obtain rfl := mm_inj1 hf
      exact mm_zret (v := false) C0 hP hD hS dX8_isPlannedFold_33 (by decide)
    · have hf := mm_in hf c_2
      refine lv_lload_n hx hb dX8_isPlannedFold_14 rfl (lv_at hl 1 rfl) ?_
      refine lv_lconst (v := 0) hx hb dX8_isPlannedFold_15 (by decide) ?_
      refine W.lcmp hx hb dX8_isPlannedFold_16 ?_
      refine lv_if_lt (tgt := 32) hx hb dX8_isPlannedFold_17 (by decide) (fun c_3 => ?_) (fun c_3 => ?_)
      · have hf := mm_ip hf c_3
        refine lv_iconst (v := 0) hx hb dX8_isPlannedFold_32 (by decide) ?_
        obtain rfl := mm_inj1 hf
        exact mm_zret (v := false) C0 hP hD hS dX8_isPlannedFold_33 (by decide)
      · have hf := mm_in hf c_3
        refine lv_lload_n hx hb dX8_isPlannedFold_20 rfl (lv_at hl 1 rfl) ?_
        refine lv_ldc2 hx hb hown (hts _ kc_X8_326) dX8_isPlannedFold_21 ?_
        refine W.lcmp hx hb dX8_isPlannedFold_24 ?_
        refine lv_if_ge (tgt := 32) hx hb dX8_isPlannedFold_25 (by decide) (fun c_4 => ?_) (fun c_4 => ?_)
        · have hf := mm_ip hf c_4
          refine lv_iconst (v := 0) hx hb dX8_isPlannedFold_32 (by decide) ?_
          obtain rfl := mm_inj1 hf
          exact mm_zret (v := false) C0 hP hD hS dX8_isPlannedFold_33 (by decide)
        · have hf := mm_in hf c_4
          refine lv_iconst (v := 1) hx hb dX8_isPlannedFold_28 (by decide) ?_
          refine lv_goto (tgt := 33) hx hb dX8_isPlannedFold_29 (by decide) ?_
          obtain rfl := mm_inj1 hf
          exact mm_zret (v := true) C0 hP hD hS dX8_isPlannedFold_33 (by decide)

theorem dX3_appendFrom_0 : decode cX3_appendFrom 0 = .ok (.iconst 0, 1) := by decide +kernel
theorem dX3_appendFrom_1 : decode cX3_appendFrom 1 = .ok (.istore 4, 2) := by decide +kernel
theorem dX3_appendFrom_3 : decode cX3_appendFrom 3 = .ok (.iconst 0, 1) := by decide +kernel
theorem dX3_appendFrom_4 : decode cX3_appendFrom 4 = .ok (.istore 5, 2) := by decide +kernel
theorem dX3_appendFrom_6 : decode cX3_appendFrom 6 = .ok (.iload 5, 2) := by decide +kernel
theorem dX3_appendFrom_8 : decode cX3_appendFrom 8 = .ok (.iload_n 3, 1) := by decide +kernel
theorem dX3_appendFrom_9 : decode cX3_appendFrom 9 = .ok (.if_icmp .ge 88, 3) := by decide +kernel
theorem dX3_appendFrom_12 : decode cX3_appendFrom 12 = .ok (.iload_n 2, 1) := by decide +kernel
theorem dX3_appendFrom_13 : decode cX3_appendFrom 13 = .ok (.i2l, 1) := by decide +kernel
theorem dX3_appendFrom_14 : decode cX3_appendFrom 14 = .ok (.ldc2_w 29, 3) := by decide +kernel
theorem dX3_appendFrom_17 : decode cX3_appendFrom 17 = .ok (.iload 5, 2) := by decide +kernel
theorem dX3_appendFrom_19 : decode cX3_appendFrom 19 = .ok (.i2l, 1) := by decide +kernel
theorem dX3_appendFrom_20 : decode cX3_appendFrom 20 = .ok (.lmul, 1) := by decide +kernel
theorem dX3_appendFrom_21 : decode cX3_appendFrom 21 = .ok (.ladd, 1) := by decide +kernel
theorem dX3_appendFrom_22 : decode cX3_appendFrom 22 = .ok (.lstore 6, 2) := by decide +kernel
theorem dX3_appendFrom_24 : decode cX3_appendFrom 24 = .ok (.lload 6, 2) := by decide +kernel
theorem dX3_appendFrom_26 : decode cX3_appendFrom 26 = .ok (.lconst 1, 1) := by decide +kernel
theorem dX3_appendFrom_27 : decode cX3_appendFrom 27 = .ok (.ladd, 1) := by decide +kernel
theorem dX3_appendFrom_28 : decode cX3_appendFrom 28 = .ok (.aload_n 1, 1) := by decide +kernel
theorem dX3_appendFrom_29 : decode cX3_appendFrom 29 = .ok (.getfield 31, 3) := by decide +kernel
theorem dX3_appendFrom_32 : decode cX3_appendFrom 32 = .ok (.i2l, 1) := by decide +kernel
theorem dX3_appendFrom_33 : decode cX3_appendFrom 33 = .ok (.lcmp, 1) := by decide +kernel
theorem dX3_appendFrom_34 : decode cX3_appendFrom 34 = .ok (.ifCond .lt 6, 3) := by decide +kernel
theorem dX3_appendFrom_37 : decode cX3_appendFrom 37 = .ok (.iload 4, 2) := by decide +kernel
theorem dX3_appendFrom_39 : decode cX3_appendFrom 39 = .ok (.ireturn, 1) := by decide +kernel
theorem dX3_appendFrom_40 : decode cX3_appendFrom 40 = .ok (.aload_n 1, 1) := by decide +kernel
theorem dX3_appendFrom_41 : decode cX3_appendFrom 41 = .ok (.getfield 34, 3) := by decide +kernel
theorem dX3_appendFrom_44 : decode cX3_appendFrom 44 = .ok (.lload 6, 2) := by decide +kernel
theorem dX3_appendFrom_46 : decode cX3_appendFrom 46 = .ok (.l2i, 1) := by decide +kernel
theorem dX3_appendFrom_47 : decode cX3_appendFrom 47 = .ok (.laload, 1) := by decide +kernel
theorem dX3_appendFrom_48 : decode cX3_appendFrom 48 = .ok (.lstore 8, 2) := by decide +kernel
theorem dX3_appendFrom_50 : decode cX3_appendFrom 50 = .ok (.aload_n 1, 1) := by decide +kernel
theorem dX3_appendFrom_51 : decode cX3_appendFrom 51 = .ok (.getfield 34, 3) := by decide +kernel
theorem dX3_appendFrom_54 : decode cX3_appendFrom 54 = .ok (.lload 6, 2) := by decide +kernel
theorem dX3_appendFrom_56 : decode cX3_appendFrom 56 = .ok (.l2i, 1) := by decide +kernel
theorem dX3_appendFrom_57 : decode cX3_appendFrom 57 = .ok (.iconst 1, 1) := by decide +kernel
theorem dX3_appendFrom_58 : decode cX3_appendFrom 58 = .ok (.iadd, 1) := by decide +kernel
theorem dX3_appendFrom_59 : decode cX3_appendFrom 59 = .ok (.laload, 1) := by decide +kernel
theorem dX3_appendFrom_60 : decode cX3_appendFrom 60 = .ok (.lstore 10, 2) := by decide +kernel
theorem dX3_appendFrom_62 : decode cX3_appendFrom 62 = .ok (.lload 8, 2) := by decide +kernel
theorem dX3_appendFrom_64 : decode cX3_appendFrom 64 = .ok (.lload 10, 2) := by decide +kernel
theorem dX3_appendFrom_66 : decode cX3_appendFrom 66 = .ok (.invokestatic 38, 3) := by decide +kernel
theorem dX3_appendFrom_69 : decode cX3_appendFrom 69 = .ok (.ifCond .eq 16, 3) := by decide +kernel
theorem dX3_appendFrom_72 : decode cX3_appendFrom 72 = .ok (.aload_n 0, 1) := by decide +kernel
theorem dX3_appendFrom_73 : decode cX3_appendFrom 73 = .ok (.lload 8, 2) := by decide +kernel
theorem dX3_appendFrom_75 : decode cX3_appendFrom 75 = .ok (.l2i, 1) := by decide +kernel
theorem dX3_appendFrom_76 : decode cX3_appendFrom 76 = .ok (.lload 10, 2) := by decide +kernel
theorem dX3_appendFrom_78 : decode cX3_appendFrom 78 = .ok (.l2i, 1) := by decide +kernel
theorem dX3_appendFrom_79 : decode cX3_appendFrom 79 = .ok (.invokevirtual 42, 3) := by decide +kernel
theorem dX3_appendFrom_82 : decode cX3_appendFrom 82 = .ok (.ifCond .ne 6, 3) := by decide +kernel
theorem dX3_appendFrom_85 : decode cX3_appendFrom 85 = .ok (.iload 4, 2) := by decide +kernel
theorem dX3_appendFrom_87 : decode cX3_appendFrom 87 = .ok (.ireturn, 1) := by decide +kernel
theorem dX3_appendFrom_88 : decode cX3_appendFrom 88 = .ok (.iinc 4 1, 3) := by decide +kernel
theorem dX3_appendFrom_91 : decode cX3_appendFrom 91 = .ok (.iinc 5 1, 3) := by decide +kernel
theorem dX3_appendFrom_94 : decode cX3_appendFrom 94 = .ok (.goto (-88), 3) := by decide +kernel
theorem dX3_appendFrom_97 : decode cX3_appendFrom 97 = .ok (.iload 4, 2) := by decide +kernel
theorem dX3_appendFrom_99 : decode cX3_appendFrom 99 = .ok (.ireturn, 1) := by decide +kernel
def fX3_appendFrom_6 (N : Nat)  : Nat → Int32 → Int32 → Int32 → Int32 → Int32 → List Int32 → List Int32 → Int32 → List Int64 → Option (Int32 × Int32 × List Int32 × List Int32)
  | 0 => fun _ _ _ _ _ _ _ _ _ => none
  | n + 1 => fun x2 x3 x4 x5 v_size v_lines v_ways p1_size p1_items =>
    if x3 ≤ x5 then
    (some (x4, v_size, v_lines, v_ways))
    else (mm_nm ((((x2).toInt64) + ((2 : Int64) * ((x5).toInt64)))) (fun (y_2 : Int64) =>
    if (lg_cmp (y_2 + (1 : Int64)) ((p1_size).toInt64)) < 0 then
    (mm_ck (mm_inb (y_2.toInt32) p1_items.length) (mm_nm ((mm_lg p1_items (y_2.toInt32))) (fun (y_5 : Int64) =>
    mm_ck (mm_inb ((y_2.toInt32) + (1 : Int32)) p1_items.length) (mm_nm ((mm_lg p1_items ((y_2.toInt32) + (1 : Int32)))) (fun (y_7 : Int64) =>
    mm_bd1 (fX8_isPlannedFold N y_5 y_7) (fun (r_8 : Bool) =>
    if r_8 = false then
    (some (x4, v_size, v_lines, v_ways))
    else (mm_bd4 (fX3_append N (y_5.toInt32) (y_7.toInt32) v_size v_lines v_ways) (fun (r_11 : Bool) (w_12 : Int32) (w_13 : List Int32) (w_14 : List Int32) =>
    if r_11 = false then
    (some (x4, w_12, w_13, w_14))
    else (mm_nm (x4 + (1 : Int32)) (fun (y_17 : Int32) =>
    mm_nm (x5 + (1 : Int32)) (fun (y_18 : Int32) =>
    fX3_appendFrom_6 N n x2 x3 y_17 y_18 w_12 w_13 w_14 p1_size p1_items)))))))))))
    else (some (x4, v_size, v_lines, v_ways))))

set_option maxHeartbeats 4000000 in
set_option maxRecDepth 100000 in
theorem tX3_appendFrom_6 {p : Program} {l : Launch} {e : Env} {s : State} {m : MethodId} {args : Array Value} {below : List Frame} {meth : Method} {c : Code} {D : va_G} {cI cL cS cH : ClassId} {A : Nat → Prop} {d : Nat} {a : Nat → Nat} (hd : 2 ≤ d) (C0 : mm_Cx p s m args meth c RX3 cX3_appendFrom 12 (some .int) D (mm_T cI cL cS cH) A) (hA : ∀ q, s.heap.size ≤ q → A q) {v_trial_rows : Int32} {v_trial_cols : Int32} {v_trial_high : Int32} {v_trial_wide : Int32} {v_trial_folds : Int32} {v_trial_wrong : Int32} {v_trial_more : Int32} {v_trial_rowOf : List Int32} {v_trial_colOf : List Int32} {v_trial_below : List Int32} {v_trial_face : List Int32} {v_trial_worn : List Int32} {v_trial_last : List Int32} {v_trial_bend : List Int32} {v_trial_tall : List Int32} {p1_holds : Int32} {p1_body : Int32} {p1_sort : Int32} {r : Int32} {w_size : Int32} {w_lines : List Int32} {w_ways : List Int32} (N : Nat)  : ∀ (n : Nat), ∀ (x2 : Int32) (x3 : Int32) (x4 : Int32) (x5 : Int32) (v_size : Int32) (v_lines : List Int32) (v_ways : List Int32) (p1_size : Int32) (p1_items : List Int64) (H : Heap) (locs : List Loc) (ls : Array Slot), fX3_appendFrom_6 N n x2 x3 x4 x5 v_size v_lines v_ways p1_size p1_items = some (r, w_size, w_lines, w_ways) → va_P D mm_cl (wd_X3 cI cL cS cH a v_size v_trial_rows v_trial_cols v_trial_high v_trial_wide v_trial_folds v_trial_wrong v_trial_more v_trial_rowOf v_trial_colOf v_trial_below v_trial_face v_trial_worn v_trial_last v_trial_bend v_trial_tall v_lines v_ways ++ wd_X6 cI cL cS cH (fun k => a (k + 12)) p1_holds p1_body p1_sort p1_size p1_items) H → va_D A (wd_X3 cI cL cS cH a v_size v_trial_rows v_trial_cols v_trial_high v_trial_wide v_trial_folds v_trial_wrong v_trial_more v_trial_rowOf v_trial_colOf v_trial_below v_trial_face v_trial_worn v_trial_last v_trial_bend v_trial_tall v_lines v_ways ++ wd_X6 cI cL cS cH (fun k => a (k + 12)) p1_holds p1_body p1_sort p1_size p1_items) → va_S A s.heap H locs → lv_has ls 12 [(0, .ref (a 0)), (1, .ref (a 12)), (2, .int x2), (3, .int x3), (4, .int x4), (5, .int x5)] → W p l e (mm_rr d) s m args below meth c H locs 0 0 (mm_Z below D A (wd_X3 cI cL cS cH a w_size v_trial_rows v_trial_cols v_trial_high v_trial_wide v_trial_folds v_trial_wrong v_trial_more v_trial_rowOf v_trial_colOf v_trial_below v_trial_face v_trial_worn v_trial_last v_trial_bend v_trial_tall w_lines w_ways ++ wd_X6 cI cL cS cH (fun k => a (k + 12)) p1_holds p1_body p1_sort p1_size p1_items) (some (.int r)) args s) (F0 m 6 ls []) := by
  obtain ⟨hx, hb, hml, hown, hts, hr, hlocks, hK, hSt⟩ := id C0
  intro n
  induction n with
  | zero =>
    intro x2 x3 x4 x5 v_size v_lines v_ways p1_size p1_items H locs ls hf
    cases (show none = some _ from hf)
  | succ n ih =>
    intro x2 x3 x4 x5 v_size v_lines v_ways p1_size p1_items H locs ls hf hP hD hS hl
    unfold fX3_appendFrom_6 at hf
    refine lv_iload hx hb dX3_appendFrom_6 (lv_at hl 5 rfl) ?_
    refine lv_iload_n hx hb dX3_appendFrom_8 rfl (lv_at hl 3 rfl) ?_
    refine lv_icmp_ge (tgt := 97) hx hb dX3_appendFrom_9 (by decide) (fun c_1 => ?_) (fun c_1 => ?_)
    · have hf := mm_ip hf c_1
      refine lv_iload hx hb dX3_appendFrom_97 (lv_at hl 4 rfl) ?_
      apply mm_sub4 hf
      exact mm_iret C0 hP hD hS dX3_appendFrom_99
    · have hf := mm_in hf c_1
      refine lv_iload_n hx hb dX3_appendFrom_12 rfl (lv_at hl 2 rfl) ?_
      refine lv_i2l hx hb dX3_appendFrom_13 rfl ?_
      refine lv_ldc2 hx hb hown (hts _ kc_X3_29) dX3_appendFrom_14 ?_
      refine lv_iload hx hb dX3_appendFrom_17 (lv_at hl 5 rfl) ?_
      refine lv_i2l hx hb dX3_appendFrom_19 rfl ?_
      refine lv_lmul hx hb dX3_appendFrom_20 ?_
      refine lv_ladd hx hb dX3_appendFrom_21 ?_
      refine lv_topl (fun y_2 ey_2 => ?_)
      have hf := mm_nms hf ey_2
      refine lv_lstore (lv' := [(6, .long y_2), (0, .ref (a 0)), (1, .ref (a 12)), (2, .int x2), (3, .int x3), (4, .int x4), (5, .int x5)]) hx hb dX3_appendFrom_22 hl (by decide) rfl (fun ls hl => ?_)
      refine lv_lload hx hb dX3_appendFrom_24 (lv_at hl 0 rfl) ?_
      refine lv_lconst (v := 1) hx hb dX3_appendFrom_26 (by decide) ?_
      refine lv_ladd hx hb dX3_appendFrom_27 ?_
      refine lv_aload_n hx hb dX3_appendFrom_28 rfl (lv_at hl 2 rfl) ?_
      refine mm_get C0 hP iw_X6 12 rfl rfl 3 (by decide) fl_X3_31 rfl dX3_appendFrom_29 ?_
      refine lv_i2l hx hb dX3_appendFrom_32 rfl ?_
      refine W.lcmp hx hb dX3_appendFrom_33 ?_
      refine lv_if_lt (tgt := 40) hx hb dX3_appendFrom_34 (by decide) (fun c_3 => ?_) (fun c_3 => ?_)
      · have hf := mm_ip hf c_3
        refine lv_aload_n hx hb dX3_appendFrom_40 rfl (lv_at hl 2 rfl) ?_
        refine mm_get C0 hP iw_X6 12 rfl rfl 4 (by decide) fl_X3_34 rfl dX3_appendFrom_41 ?_
        refine lv_lload hx hb dX3_appendFrom_44 (lv_at hl 0 rfl) ?_
        refine lv_l2i hx hb dX3_appendFrom_46 rfl ?_
        obtain ⟨h_4, hf⟩ := mm_cks hf
        refine mm_lald C0 hP 13 rfl h_4 dX3_appendFrom_47 ?_
        refine lv_topl (fun y_5 ey_5 => ?_)
        have hf := mm_nms hf ey_5
        refine lv_lstore (lv' := [(8, .long y_5), (6, .long y_2), (0, .ref (a 0)), (1, .ref (a 12)), (2, .int x2), (3, .int x3), (4, .int x4), (5, .int x5)]) hx hb dX3_appendFrom_48 hl (by decide) rfl (fun ls hl => ?_)
        refine lv_aload_n hx hb dX3_appendFrom_50 rfl (lv_at hl 3 rfl) ?_
        refine mm_get C0 hP iw_X6 12 rfl rfl 4 (by decide) fl_X3_34 rfl dX3_appendFrom_51 ?_
        refine lv_lload hx hb dX3_appendFrom_54 (lv_at hl 1 rfl) ?_
        refine lv_l2i hx hb dX3_appendFrom_56 rfl ?_
        refine lv_iconst (v := 1) hx hb dX3_appendFrom_57 (by decide) ?_
        refine lv_iadd hx hb dX3_appendFrom_58 ?_
        obtain ⟨h_6, hf⟩ := mm_cks hf
        refine mm_lald C0 hP 13 rfl h_6 dX3_appendFrom_59 ?_
        refine lv_topl (fun y_7 ey_7 => ?_)
        have hf := mm_nms hf ey_7
        refine lv_lstore (lv' := [(10, .long y_7), (8, .long y_5), (6, .long y_2), (0, .ref (a 0)), (1, .ref (a 12)), (2, .int x2), (3, .int x3), (4, .int x4), (5, .int x5)]) hx hb dX3_appendFrom_60 hl (by decide) rfl (fun ls hl => ?_)
        refine lv_lload hx hb dX3_appendFrom_62 (lv_at hl 1 rfl) ?_
        refine lv_lload hx hb dX3_appendFrom_64 (lv_at hl 0 rfl) ?_
        obtain ⟨r_8, hc_9, hf⟩ := mm_bd1s hf
        refine mm_callS0N (rest := []) C0 ln_X3_38 (ctX8_isPlannedFold (d := d - 1) (by omega) hc_9) (by omega) rfl hl.1 rfl (mm_cat rfl) dX3_appendFrom_66 hP hD hA hS (fun H locs hP hS => ?_)
        refine W.eq (g2 := F0 m 69 ls [.int (mm_b r_8)]) rfl ?_
        refine lv_if_eq (tgt := 85) hx hb dX3_appendFrom_69 (by decide) (fun c_10 => ?_) (fun c_10 => ?_)
        · have hf := mm_ip hf (mm_b0 c_10)
          refine lv_iload hx hb dX3_appendFrom_85 (lv_at hl 7 rfl) ?_
          apply mm_sub4 hf
          exact mm_iret C0 hP hD hS dX3_appendFrom_87
        · have hf := mm_in hf (mm_b1 c_10)
          refine lv_aload_n hx hb dX3_appendFrom_72 rfl (lv_at hl 3 rfl) ?_
          refine lv_lload hx hb dX3_appendFrom_73 (lv_at hl 1 rfl) ?_
          refine lv_l2i hx hb dX3_appendFrom_75 rfl ?_
          refine lv_lload hx hb dX3_appendFrom_76 (lv_at hl 0 rfl) ?_
          refine lv_l2i hx hb dX3_appendFrom_78 rfl ?_
          obtain ⟨r_11, w_12, w_13, w_14, hc_15, hf⟩ := mm_bd4s hf
          refine mm_callW (q0 := 0) (ci := 3) (w2 := (wd_X3 cI cL cS cH a w_12 v_trial_rows v_trial_cols v_trial_high v_trial_wide v_trial_folds v_trial_wrong v_trial_more v_trial_rowOf v_trial_colOf v_trial_below v_trial_face v_trial_worn v_trial_last v_trial_bend v_trial_tall w_13 w_14 ++ wd_X6 cI cL cS cH (fun k => a (k + 12)) p1_holds p1_body p1_sort p1_size p1_items)) (rest := []) C0 lk_X3_42 (ctX3_append (a := (fun k => a (k + 0))) (d := d - 1) (by omega) hc_15) (by omega) rfl hl.1 rfl (mm_cat rfl) dX3_appendFrom_79 hP hD hA hS rfl rfl [true, true, true, true, true, true, true, true, true, true, true, true, false, false] rfl rfl rfl rfl (fun H locs hP hD hS => ?_)
          refine W.eq (g2 := F0 m 82 ls [.int (mm_b r_11)]) rfl ?_
          refine lv_if_ne (tgt := 88) hx hb dX3_appendFrom_82 (by decide) (fun c_16 => ?_) (fun c_16 => ?_)
          · have hf := mm_in hf (mm_b1 c_16)
            obtain ⟨y_17, ey_17⟩ : ∃ z : Int32, z = x4 + (1 : Int32) := ⟨_, rfl⟩
            have hf := mm_nms hf ey_17
            refine lv_iinc (v := y_17) (lv' := [(4, .int y_17), (10, .long y_7), (8, .long y_5), (6, .long y_2), (0, .ref (a 0)), (1, .ref (a 12)), (2, .int x2), (3, .int x3), (5, .int x5)]) hx hb dX3_appendFrom_88 hl (k := 7) rfl (by rw [ey_17]; rfl) (by decide) rfl (fun ls hl => ?_)
            obtain ⟨y_18, ey_18⟩ : ∃ z : Int32, z = x5 + (1 : Int32) := ⟨_, rfl⟩
            have hf := mm_nms hf ey_18
            refine lv_iinc (v := y_18) (lv' := [(5, .int y_18), (4, .int y_17), (10, .long y_7), (8, .long y_5), (6, .long y_2), (0, .ref (a 0)), (1, .ref (a 12)), (2, .int x2), (3, .int x3)]) hx hb dX3_appendFrom_91 hl (k := 8) rfl (by rw [ey_18]; rfl) (by decide) rfl (fun ls hl => ?_)
            refine lv_goto (tgt := 6) hx hb dX3_appendFrom_94 (by decide) ?_
            exact ih _ _ _ _ _ _ _ _ _ H locs ls hf hP hD hS (lv_sub hl [5, 6, 7, 8, 1, 0] rfl)
          · have hf := mm_ip hf (mm_b0 c_16)
            refine lv_iload hx hb dX3_appendFrom_85 (lv_at hl 7 rfl) ?_
            apply mm_sub4 hf
            exact mm_iret C0 hP hD hS dX3_appendFrom_87
      · have hf := mm_in hf c_3
        refine lv_iload hx hb dX3_appendFrom_37 (lv_at hl 5 rfl) ?_
        apply mm_sub4 hf
        exact mm_iret C0 hP hD hS dX3_appendFrom_39

def fX3_appendFrom (N : Nat) (x2 : Int32) (x3 : Int32) (v_size : Int32) (v_lines : List Int32) (v_ways : List Int32) (p1_size : Int32) (p1_items : List Int64) : Option (Int32 × Int32 × List Int32 × List Int32) :=
    fX3_appendFrom_6 N N x2 x3 (0 : Int32) (0 : Int32) v_size v_lines v_ways p1_size p1_items

set_option maxHeartbeats 4000000 in
set_option maxRecDepth 100000 in
theorem ctX3_appendFrom {l : Launch} {D : va_G} {cI cL cS cH : ClassId} {a : Nat → Nat} {x2 : Int32} {x3 : Int32} {v_size : Int32} {v_trial_rows : Int32} {v_trial_cols : Int32} {v_trial_high : Int32} {v_trial_wide : Int32} {v_trial_folds : Int32} {v_trial_wrong : Int32} {v_trial_more : Int32} {v_trial_rowOf : List Int32} {v_trial_colOf : List Int32} {v_trial_below : List Int32} {v_trial_face : List Int32} {v_trial_worn : List Int32} {v_trial_last : List Int32} {v_trial_bend : List Int32} {v_trial_tall : List Int32} {v_lines : List Int32} {v_ways : List Int32} {p1_holds : Int32} {p1_body : Int32} {p1_sort : Int32} {p1_size : Int32} {p1_items : List Int64} {r : Int32} {w_size : Int32} {w_lines : List Int32} {w_ways : List Int32} {N d : Nat} (hd : 2 ≤ d) (hf : fX3_appendFrom N x2 x3 v_size v_lines v_ways p1_size p1_items = some (r, w_size, w_lines, w_ways)) : mm_Ct l yX3_appendFrom cX3_appendFrom 12 (some .int) d D (mm_T cI cL cS cH) [.ref (a 0), .ref (a 12), .int x2, .int x3] (wd_X3 cI cL cS cH a v_size v_trial_rows v_trial_cols v_trial_high v_trial_wide v_trial_folds v_trial_wrong v_trial_more v_trial_rowOf v_trial_colOf v_trial_below v_trial_face v_trial_worn v_trial_last v_trial_bend v_trial_tall v_lines v_ways ++ wd_X6 cI cL cS cH (fun k => a (k + 12)) p1_holds p1_body p1_sort p1_size p1_items) (wd_X3 cI cL cS cH a w_size v_trial_rows v_trial_cols v_trial_high v_trial_wide v_trial_folds v_trial_wrong v_trial_more v_trial_rowOf v_trial_colOf v_trial_below v_trial_face v_trial_worn v_trial_last v_trial_bend v_trial_tall w_lines w_ways ++ wd_X6 cI cL cS cH (fun k => a (k + 12)) p1_holds p1_body p1_sort p1_size p1_items) (some (.int r)) := by
  refine mm_of (by decide) (Nat.le_of_ble_eq_true rfl) ?_
  intro p e s m args below meth c A H locs ls C0 hP hD hA hS hl
  have C0 : mm_Cx p s m args meth c RX3 cX3_appendFrom 12 (some .int) D (mm_T cI cL cS cH) A := C0
  obtain ⟨hx, hb, hml, hown, hts, hr, hlocks, hK, hSt⟩ := id C0
  have hl : lv_has ls 12 [(0, .ref (a 0)), (1, .ref (a 12)), (2, .int x2), (3, .int x3)] := hl
  unfold fX3_appendFrom at hf
  refine lv_iconst (v := 0) hx hb dX3_appendFrom_0 (by decide) ?_
  refine lv_istore (lv' := [(4, .int (0 : Int32)), (0, .ref (a 0)), (1, .ref (a 12)), (2, .int x2), (3, .int x3)]) hx hb dX3_appendFrom_1 hl (by decide) rfl (fun ls hl => ?_)
  refine lv_iconst (v := 0) hx hb dX3_appendFrom_3 (by decide) ?_
  refine lv_istore (lv' := [(5, .int (0 : Int32)), (4, .int (0 : Int32)), (0, .ref (a 0)), (1, .ref (a 12)), (2, .int x2), (3, .int x3)]) hx hb dX3_appendFrom_4 hl (by decide) rfl (fun ls hl => ?_)
  exact tX3_appendFrom_6 hd C0 hA N  N _ _ _ _ _ _ _ _ _ H locs ls hf hP hD hS (lv_sub hl [2, 3, 4, 5, 1, 0] rfl)

theorem dX3_tryFirst_0 : decode cX3_tryFirst 0 = .ok (.aload_n 0, 1) := by decide +kernel
theorem dX3_tryFirst_1 : decode cX3_tryFirst 1 = .ok (.getfield 12, 3) := by decide +kernel
theorem dX3_tryFirst_4 : decode cX3_tryFirst 4 = .ok (.aload_n 2, 1) := by decide +kernel
theorem dX3_tryFirst_5 : decode cX3_tryFirst 5 = .ok (.invokevirtual 46, 3) := by decide +kernel
theorem dX3_tryFirst_8 : decode cX3_tryFirst 8 = .ok (.iconst 0, 1) := by decide +kernel
theorem dX3_tryFirst_9 : decode cX3_tryFirst 9 = .ok (.istore 5, 2) := by decide +kernel
theorem dX3_tryFirst_11 : decode cX3_tryFirst 11 = .ok (.iload 5, 2) := by decide +kernel
theorem dX3_tryFirst_13 : decode cX3_tryFirst 13 = .ok (.iload_n 1, 1) := by decide +kernel
theorem dX3_tryFirst_14 : decode cX3_tryFirst 14 = .ok (.if_icmp .ge 70, 3) := by decide +kernel
theorem dX3_tryFirst_17 : decode cX3_tryFirst 17 = .ok (.iload 5, 2) := by decide +kernel
theorem dX3_tryFirst_19 : decode cX3_tryFirst 19 = .ok (.aload_n 0, 1) := by decide +kernel
theorem dX3_tryFirst_20 : decode cX3_tryFirst 20 = .ok (.getfield 25, 3) := by decide +kernel
theorem dX3_tryFirst_23 : decode cX3_tryFirst 23 = .ok (.if_icmp .ge 61, 3) := by decide +kernel
theorem dX3_tryFirst_26 : decode cX3_tryFirst 26 = .ok (.aload_n 0, 1) := by decide +kernel
theorem dX3_tryFirst_27 : decode cX3_tryFirst 27 = .ok (.getfield 12, 3) := by decide +kernel
theorem dX3_tryFirst_30 : decode cX3_tryFirst 30 = .ok (.aload_n 0, 1) := by decide +kernel
theorem dX3_tryFirst_31 : decode cX3_tryFirst 31 = .ok (.getfield 18, 3) := by decide +kernel
theorem dX3_tryFirst_34 : decode cX3_tryFirst 34 = .ok (.iload 5, 2) := by decide +kernel
theorem dX3_tryFirst_36 : decode cX3_tryFirst 36 = .ok (.iaload, 1) := by decide +kernel
theorem dX3_tryFirst_37 : decode cX3_tryFirst 37 = .ok (.aload_n 0, 1) := by decide +kernel
theorem dX3_tryFirst_38 : decode cX3_tryFirst 38 = .ok (.getfield 22, 3) := by decide +kernel
theorem dX3_tryFirst_41 : decode cX3_tryFirst 41 = .ok (.iload 5, 2) := by decide +kernel
theorem dX3_tryFirst_43 : decode cX3_tryFirst 43 = .ok (.iaload, 1) := by decide +kernel
theorem dX3_tryFirst_44 : decode cX3_tryFirst 44 = .ok (.invokevirtual 50, 3) := by decide +kernel
theorem dX3_tryFirst_47 : decode cX3_tryFirst 47 = .ok (.ifCond .ne 6, 3) := by decide +kernel
theorem dX3_tryFirst_50 : decode cX3_tryFirst 50 = .ok (.iload 5, 2) := by decide +kernel
theorem dX3_tryFirst_52 : decode cX3_tryFirst 52 = .ok (.ireturn, 1) := by decide +kernel
theorem dX3_tryFirst_53 : decode cX3_tryFirst 53 = .ok (.aload_n 0, 1) := by decide +kernel
theorem dX3_tryFirst_54 : decode cX3_tryFirst 54 = .ok (.getfield 12, 3) := by decide +kernel
theorem dX3_tryFirst_57 : decode cX3_tryFirst 57 = .ok (.aload_n 0, 1) := by decide +kernel
theorem dX3_tryFirst_58 : decode cX3_tryFirst 58 = .ok (.getfield 18, 3) := by decide +kernel
theorem dX3_tryFirst_61 : decode cX3_tryFirst 61 = .ok (.iload 5, 2) := by decide +kernel
theorem dX3_tryFirst_63 : decode cX3_tryFirst 63 = .ok (.iaload, 1) := by decide +kernel
theorem dX3_tryFirst_64 : decode cX3_tryFirst 64 = .ok (.aload_n 0, 1) := by decide +kernel
theorem dX3_tryFirst_65 : decode cX3_tryFirst 65 = .ok (.getfield 22, 3) := by decide +kernel
theorem dX3_tryFirst_68 : decode cX3_tryFirst 68 = .ok (.iload 5, 2) := by decide +kernel
theorem dX3_tryFirst_70 : decode cX3_tryFirst 70 = .ok (.iaload, 1) := by decide +kernel
theorem dX3_tryFirst_71 : decode cX3_tryFirst 71 = .ok (.iload_n 3, 1) := by decide +kernel
theorem dX3_tryFirst_72 : decode cX3_tryFirst 72 = .ok (.aload 4, 2) := by decide +kernel
theorem dX3_tryFirst_74 : decode cX3_tryFirst 74 = .ok (.invokevirtual 53, 3) := by decide +kernel
theorem dX3_tryFirst_77 : decode cX3_tryFirst 77 = .ok (.pop, 1) := by decide +kernel
theorem dX3_tryFirst_78 : decode cX3_tryFirst 78 = .ok (.iinc 5 1, 3) := by decide +kernel
theorem dX3_tryFirst_81 : decode cX3_tryFirst 81 = .ok (.goto (-70), 3) := by decide +kernel
theorem dX3_tryFirst_84 : decode cX3_tryFirst 84 = .ok (.iload_n 1, 1) := by decide +kernel
theorem dX3_tryFirst_85 : decode cX3_tryFirst 85 = .ok (.aload_n 0, 1) := by decide +kernel
theorem dX3_tryFirst_86 : decode cX3_tryFirst 86 = .ok (.getfield 25, 3) := by decide +kernel
theorem dX3_tryFirst_89 : decode cX3_tryFirst 89 = .ok (.invokestatic 57, 3) := by decide +kernel
theorem dX3_tryFirst_92 : decode cX3_tryFirst 92 = .ok (.ireturn, 1) := by decide +kernel
def fX3_tryFirst_84 (N : Nat)  (x1 : Int32) (v_size : Int32) (v_trial_rows : Int32) (v_trial_cols : Int32) (v_trial_high : Int32) (v_trial_wide : Int32) (v_trial_folds : Int32) (v_trial_wrong : Int32) (v_trial_more : Int32) (v_trial_rowOf : List Int32) (v_trial_colOf : List Int32) (v_trial_below : List Int32) (v_trial_face : List Int32) (v_trial_worn : List Int32) (v_trial_last : List Int32) (v_trial_bend : List Int32) (v_trial_tall : List Int32) (v_lines : List Int32) (v_ways : List Int32) (p2_rows : Int32) (p2_cols : Int32) (p2_high : Int32) (p2_wide : Int32) (p2_folds : Int32) (p2_wrong : Int32) (p2_more : Int32) (p2_rowOf : List Int32) (p2_colOf : List Int32) (p2_below : List Int32) (p2_face : List Int32) (p2_worn : List Int32) (p2_last : List Int32) (p4_stepCount : Int32) (p4_stacked : Int32) (p4_steps : List Int32) (p4_stack : List Int32) : Option (Int32 × Int32 × Int32 × Int32 × Int32 × Int32 × Int32 × Int32 × List Int32 × List Int32 × List Int32 × List Int32 × List Int32 × List Int32 × List Int32 × List Int32 × Int32 × List Int32) :=
    some ((mm_min x1 v_size), v_trial_rows, v_trial_cols, v_trial_high, v_trial_wide, v_trial_folds, v_trial_wrong, v_trial_more, v_trial_rowOf, v_trial_colOf, v_trial_below, v_trial_face, v_trial_worn, v_trial_last, v_trial_bend, v_trial_tall, p4_stacked, p4_stack)

set_option maxHeartbeats 4000000 in
set_option maxRecDepth 100000 in
theorem tX3_tryFirst_84 {p : Program} {l : Launch} {e : Env} {s : State} {m : MethodId} {args : Array Value} {below : List Frame} {meth : Method} {c : Code} {D : va_G} {cI cL cS cH : ClassId} {A : Nat → Prop} {d : Nat} {a : Nat → Nat} (hd : 6 ≤ d) (C0 : mm_Cx p s m args meth c RX3 cX3_tryFirst 6 (some .int) D (mm_T cI cL cS cH) A) (hA : ∀ q, s.heap.size ≤ q → A q) {p2_bend : List Int32} {p2_tall : List Int32} {p4_size : Int32} {p4_draftCount : Int32} {p4_place : Int32} {p4_fault : Int32} {p4_tape : List Int32} {p4_draft : List Int32} {r : Int32} {w_trial_rows : Int32} {w_trial_cols : Int32} {w_trial_high : Int32} {w_trial_wide : Int32} {w_trial_folds : Int32} {w_trial_wrong : Int32} {w_trial_more : Int32} {w_trial_rowOf : List Int32} {w_trial_colOf : List Int32} {w_trial_below : List Int32} {w_trial_face : List Int32} {w_trial_worn : List Int32} {w_trial_last : List Int32} {w_trial_bend : List Int32} {w_trial_tall : List Int32} {wp4_stacked : Int32} {wp4_stack : List Int32} (N : Nat)  : ∀ (x1 : Int32) (v_size : Int32) (v_trial_rows : Int32) (v_trial_cols : Int32) (v_trial_high : Int32) (v_trial_wide : Int32) (v_trial_folds : Int32) (v_trial_wrong : Int32) (v_trial_more : Int32) (v_trial_rowOf : List Int32) (v_trial_colOf : List Int32) (v_trial_below : List Int32) (v_trial_face : List Int32) (v_trial_worn : List Int32) (v_trial_last : List Int32) (v_trial_bend : List Int32) (v_trial_tall : List Int32) (v_lines : List Int32) (v_ways : List Int32) (p2_rows : Int32) (p2_cols : Int32) (p2_high : Int32) (p2_wide : Int32) (p2_folds : Int32) (p2_wrong : Int32) (p2_more : Int32) (p2_rowOf : List Int32) (p2_colOf : List Int32) (p2_below : List Int32) (p2_face : List Int32) (p2_worn : List Int32) (p2_last : List Int32) (p4_stepCount : Int32) (p4_stacked : Int32) (p4_steps : List Int32) (p4_stack : List Int32) (H : Heap) (locs : List Loc) (ls : Array Slot), fX3_tryFirst_84 N x1 v_size v_trial_rows v_trial_cols v_trial_high v_trial_wide v_trial_folds v_trial_wrong v_trial_more v_trial_rowOf v_trial_colOf v_trial_below v_trial_face v_trial_worn v_trial_last v_trial_bend v_trial_tall v_lines v_ways p2_rows p2_cols p2_high p2_wide p2_folds p2_wrong p2_more p2_rowOf p2_colOf p2_below p2_face p2_worn p2_last p4_stepCount p4_stacked p4_steps p4_stack = some (r, w_trial_rows, w_trial_cols, w_trial_high, w_trial_wide, w_trial_folds, w_trial_wrong, w_trial_more, w_trial_rowOf, w_trial_colOf, w_trial_below, w_trial_face, w_trial_worn, w_trial_last, w_trial_bend, w_trial_tall, wp4_stacked, wp4_stack) → va_P D mm_cl (wd_X3 cI cL cS cH a v_size v_trial_rows v_trial_cols v_trial_high v_trial_wide v_trial_folds v_trial_wrong v_trial_more v_trial_rowOf v_trial_colOf v_trial_below v_trial_face v_trial_worn v_trial_last v_trial_bend v_trial_tall v_lines v_ways ++ wd_X5 cI cL cS cH (fun k => a (k + 12)) p2_rows p2_cols p2_high p2_wide p2_folds p2_wrong p2_more p2_rowOf p2_colOf p2_below p2_face p2_worn p2_last p2_bend p2_tall ++ wd_X2 cI cL cS cH (fun k => a (k + 21)) p4_size p4_stepCount p4_draftCount p4_place p4_fault p4_stacked p4_tape p4_steps p4_draft p4_stack) H → va_D A (wd_X3 cI cL cS cH a v_size v_trial_rows v_trial_cols v_trial_high v_trial_wide v_trial_folds v_trial_wrong v_trial_more v_trial_rowOf v_trial_colOf v_trial_below v_trial_face v_trial_worn v_trial_last v_trial_bend v_trial_tall v_lines v_ways ++ wd_X5 cI cL cS cH (fun k => a (k + 12)) p2_rows p2_cols p2_high p2_wide p2_folds p2_wrong p2_more p2_rowOf p2_colOf p2_below p2_face p2_worn p2_last p2_bend p2_tall ++ wd_X2 cI cL cS cH (fun k => a (k + 21)) p4_size p4_stepCount p4_draftCount p4_place p4_fault p4_stacked p4_tape p4_steps p4_draft p4_stack) → va_S A s.heap H locs → lv_has ls 6 [(0, .ref (a 0)), (1, .int x1)] → W p l e (mm_rr d) s m args below meth c H locs 0 0 (mm_Z below D A (wd_X3 cI cL cS cH a v_size w_trial_rows w_trial_cols w_trial_high w_trial_wide w_trial_folds w_trial_wrong w_trial_more w_trial_rowOf w_trial_colOf w_trial_below w_trial_face w_trial_worn w_trial_last w_trial_bend w_trial_tall v_lines v_ways ++ wd_X5 cI cL cS cH (fun k => a (k + 12)) p2_rows p2_cols p2_high p2_wide p2_folds p2_wrong p2_more p2_rowOf p2_colOf p2_below p2_face p2_worn p2_last p2_bend p2_tall ++ wd_X2 cI cL cS cH (fun k => a (k + 21)) p4_size p4_stepCount p4_draftCount p4_place p4_fault wp4_stacked p4_tape p4_steps p4_draft wp4_stack) (some (.int r)) args s) (F0 m 84 ls []) := by
  obtain ⟨hx, hb, hml, hown, hts, hr, hlocks, hK, hSt⟩ := id C0
  intro x1 v_size v_trial_rows v_trial_cols v_trial_high v_trial_wide v_trial_folds v_trial_wrong v_trial_more v_trial_rowOf v_trial_colOf v_trial_below v_trial_face v_trial_worn v_trial_last v_trial_bend v_trial_tall v_lines v_ways p2_rows p2_cols p2_high p2_wide p2_folds p2_wrong p2_more p2_rowOf p2_colOf p2_below p2_face p2_worn p2_last p4_stepCount p4_stacked p4_steps p4_stack H locs ls hf hP hD hS hl
  unfold fX3_tryFirst_84 at hf
  refine lv_iload_n hx hb dX3_tryFirst_84 rfl (lv_at hl 1 rfl) ?_
  refine lv_aload_n hx hb dX3_tryFirst_85 rfl (lv_at hl 0 rfl) ?_
  refine mm_get C0 hP iw_X3 0 rfl rfl 0 (by decide) fl_X3_25 rfl dX3_tryFirst_86 ?_
  refine mm_mmin C0 lm_X3_57 (by omega) hl.1 (mm_cat rfl) dX3_tryFirst_89 ?_
  apply mm_sub18 hf
  exact mm_iret C0 hP hD hS dX3_tryFirst_92

def fX3_tryFirst_11 (N : Nat)  : Nat → Int32 → Int32 → Int32 → Int32 → Int32 → Int32 → Int32 → Int32 → Int32 → Int32 → Int32 → List Int32 → List Int32 → List Int32 → List Int32 → List Int32 → List Int32 → List Int32 → List Int32 → List Int32 → List Int32 → Int32 → Int32 → Int32 → Int32 → Int32 → Int32 → Int32 → List Int32 → List Int32 → List Int32 → List Int32 → List Int32 → List Int32 → Int32 → Int32 → List Int32 → List Int32 → Option (Int32 × Int32 × Int32 × Int32 × Int32 × Int32 × Int32 × Int32 × List Int32 × List Int32 × List Int32 × List Int32 × List Int32 × List Int32 × List Int32 × List Int32 × Int32 × List Int32)
  | 0 => fun _ _ _ _ _ _ _ _ _ _ _ _ _ _ _ _ _ _ _ _ _ _ _ _ _ _ _ _ _ _ _ _ _ _ _ _ _ _ => none
  | n + 1 => fun x1 x3 x5 v_size v_trial_rows v_trial_cols v_trial_high v_trial_wide v_trial_folds v_trial_wrong v_trial_more v_trial_rowOf v_trial_colOf v_trial_below v_trial_face v_trial_worn v_trial_last v_trial_bend v_trial_tall v_lines v_ways p2_rows p2_cols p2_high p2_wide p2_folds p2_wrong p2_more p2_rowOf p2_colOf p2_below p2_face p2_worn p2_last p4_stepCount p4_stacked p4_steps p4_stack =>
    if x1 ≤ x5 then
    (fX3_tryFirst_84 N x1 v_size v_trial_rows v_trial_cols v_trial_high v_trial_wide v_trial_folds v_trial_wrong v_trial_more v_trial_rowOf v_trial_colOf v_trial_below v_trial_face v_trial_worn v_trial_last v_trial_bend v_trial_tall v_lines v_ways p2_rows p2_cols p2_high p2_wide p2_folds p2_wrong p2_more p2_rowOf p2_colOf p2_below p2_face p2_worn p2_last p4_stepCount p4_stacked p4_steps p4_stack)
    else (if v_size ≤ x5 then
    (fX3_tryFirst_84 N x1 v_size v_trial_rows v_trial_cols v_trial_high v_trial_wide v_trial_folds v_trial_wrong v_trial_more v_trial_rowOf v_trial_colOf v_trial_below v_trial_face v_trial_worn v_trial_last v_trial_bend v_trial_tall v_lines v_ways p2_rows p2_cols p2_high p2_wide p2_folds p2_wrong p2_more p2_rowOf p2_colOf p2_below p2_face p2_worn p2_last p4_stepCount p4_stacked p4_steps p4_stack)
    else (mm_ck (mm_inb x5 v_lines.length) (mm_ck (mm_inb x5 v_ways.length) (mm_bd1 (fX5_hasLine N (mm_ig v_lines x5) (mm_ig v_ways x5) v_trial_high v_trial_wide) (fun (r_19 : Bool) =>
    if r_19 = false then
    (some (x5, v_trial_rows, v_trial_cols, v_trial_high, v_trial_wide, v_trial_folds, v_trial_wrong, v_trial_more, v_trial_rowOf, v_trial_colOf, v_trial_below, v_trial_face, v_trial_worn, v_trial_last, v_trial_bend, v_trial_tall, p4_stacked, p4_stack))
    else (mm_ck (mm_inb x5 v_lines.length) (mm_ck (mm_inb x5 v_ways.length) (mm_bd16 (fX5_bendAndTurn N (mm_ig v_lines x5) (mm_ig v_ways x5) x3 v_trial_rows v_trial_cols v_trial_high v_trial_wide v_trial_folds v_trial_wrong v_trial_more v_trial_rowOf v_trial_colOf v_trial_below v_trial_face v_trial_worn v_trial_last v_trial_bend v_trial_tall p4_stepCount p4_stacked p4_steps p4_stack) (fun (r_24 : Int32) (w_25 : Int32) (w_26 : Int32) (w_27 : Int32) (w_28 : Int32) (w_29 : Int32) (w_30 : List Int32) (w_31 : List Int32) (w_32 : List Int32) (w_33 : List Int32) (w_34 : List Int32) (w_35 : List Int32) (w_36 : List Int32) (w_37 : List Int32) (w_38 : Int32) (w_39 : List Int32) =>
    mm_nm (x5 + (1 : Int32)) (fun (y_41 : Int32) =>
    fX3_tryFirst_11 N n x1 x3 y_41 v_size v_trial_rows v_trial_cols w_25 w_26 w_27 w_28 w_29 w_30 w_31 w_32 w_33 w_34 w_35 w_36 w_37 v_lines v_ways p2_rows p2_cols p2_high p2_wide p2_folds p2_wrong p2_more p2_rowOf p2_colOf p2_below p2_face p2_worn p2_last p4_stepCount w_38 p4_steps w_39))))))))))

set_option maxHeartbeats 4000000 in
set_option maxRecDepth 100000 in
theorem tX3_tryFirst_11 {p : Program} {l : Launch} {e : Env} {s : State} {m : MethodId} {args : Array Value} {below : List Frame} {meth : Method} {c : Code} {D : va_G} {cI cL cS cH : ClassId} {A : Nat → Prop} {d : Nat} {a : Nat → Nat} (hd : 6 ≤ d) (C0 : mm_Cx p s m args meth c RX3 cX3_tryFirst 6 (some .int) D (mm_T cI cL cS cH) A) (hA : ∀ q, s.heap.size ≤ q → A q) {p2_bend : List Int32} {p2_tall : List Int32} {p4_size : Int32} {p4_draftCount : Int32} {p4_place : Int32} {p4_fault : Int32} {p4_tape : List Int32} {p4_draft : List Int32} {r : Int32} {w_trial_rows : Int32} {w_trial_cols : Int32} {w_trial_high : Int32} {w_trial_wide : Int32} {w_trial_folds : Int32} {w_trial_wrong : Int32} {w_trial_more : Int32} {w_trial_rowOf : List Int32} {w_trial_colOf : List Int32} {w_trial_below : List Int32} {w_trial_face : List Int32} {w_trial_worn : List Int32} {w_trial_last : List Int32} {w_trial_bend : List Int32} {w_trial_tall : List Int32} {wp4_stacked : Int32} {wp4_stack : List Int32} (N : Nat)  : ∀ (n : Nat), ∀ (x1 : Int32) (x3 : Int32) (x5 : Int32) (v_size : Int32) (v_trial_rows : Int32) (v_trial_cols : Int32) (v_trial_high : Int32) (v_trial_wide : Int32) (v_trial_folds : Int32) (v_trial_wrong : Int32) (v_trial_more : Int32) (v_trial_rowOf : List Int32) (v_trial_colOf : List Int32) (v_trial_below : List Int32) (v_trial_face : List Int32) (v_trial_worn : List Int32) (v_trial_last : List Int32) (v_trial_bend : List Int32) (v_trial_tall : List Int32) (v_lines : List Int32) (v_ways : List Int32) (p2_rows : Int32) (p2_cols : Int32) (p2_high : Int32) (p2_wide : Int32) (p2_folds : Int32) (p2_wrong : Int32) (p2_more : Int32) (p2_rowOf : List Int32) (p2_colOf : List Int32) (p2_below : List Int32) (p2_face : List Int32) (p2_worn : List Int32) (p2_last : List Int32) (p4_stepCount : Int32) (p4_stacked : Int32) (p4_steps : List Int32) (p4_stack : List Int32) (H : Heap) (locs : List Loc) (ls : Array Slot), fX3_tryFirst_11 N n x1 x3 x5 v_size v_trial_rows v_trial_cols v_trial_high v_trial_wide v_trial_folds v_trial_wrong v_trial_more v_trial_rowOf v_trial_colOf v_trial_below v_trial_face v_trial_worn v_trial_last v_trial_bend v_trial_tall v_lines v_ways p2_rows p2_cols p2_high p2_wide p2_folds p2_wrong p2_more p2_rowOf p2_colOf p2_below p2_face p2_worn p2_last p4_stepCount p4_stacked p4_steps p4_stack = some (r, w_trial_rows, w_trial_cols, w_trial_high, w_trial_wide, w_trial_folds, w_trial_wrong, w_trial_more, w_trial_rowOf, w_trial_colOf, w_trial_below, w_trial_face, w_trial_worn, w_trial_last, w_trial_bend, w_trial_tall, wp4_stacked, wp4_stack) → va_P D mm_cl (wd_X3 cI cL cS cH a v_size v_trial_rows v_trial_cols v_trial_high v_trial_wide v_trial_folds v_trial_wrong v_trial_more v_trial_rowOf v_trial_colOf v_trial_below v_trial_face v_trial_worn v_trial_last v_trial_bend v_trial_tall v_lines v_ways ++ wd_X5 cI cL cS cH (fun k => a (k + 12)) p2_rows p2_cols p2_high p2_wide p2_folds p2_wrong p2_more p2_rowOf p2_colOf p2_below p2_face p2_worn p2_last p2_bend p2_tall ++ wd_X2 cI cL cS cH (fun k => a (k + 21)) p4_size p4_stepCount p4_draftCount p4_place p4_fault p4_stacked p4_tape p4_steps p4_draft p4_stack) H → va_D A (wd_X3 cI cL cS cH a v_size v_trial_rows v_trial_cols v_trial_high v_trial_wide v_trial_folds v_trial_wrong v_trial_more v_trial_rowOf v_trial_colOf v_trial_below v_trial_face v_trial_worn v_trial_last v_trial_bend v_trial_tall v_lines v_ways ++ wd_X5 cI cL cS cH (fun k => a (k + 12)) p2_rows p2_cols p2_high p2_wide p2_folds p2_wrong p2_more p2_rowOf p2_colOf p2_below p2_face p2_worn p2_last p2_bend p2_tall ++ wd_X2 cI cL cS cH (fun k => a (k + 21)) p4_size p4_stepCount p4_draftCount p4_place p4_fault p4_stacked p4_tape p4_steps p4_draft p4_stack) → va_S A s.heap H locs → lv_has ls 6 [(0, .ref (a 0)), (1, .int x1), (3, .int x3), (4, .ref (a 21)), (5, .int x5)] → W p l e (mm_rr d) s m args below meth c H locs 0 0 (mm_Z below D A (wd_X3 cI cL cS cH a v_size w_trial_rows w_trial_cols w_trial_high w_trial_wide w_trial_folds w_trial_wrong w_trial_more w_trial_rowOf w_trial_colOf w_trial_below w_trial_face w_trial_worn w_trial_last w_trial_bend w_trial_tall v_lines v_ways ++ wd_X5 cI cL cS cH (fun k => a (k + 12)) p2_rows p2_cols p2_high p2_wide p2_folds p2_wrong p2_more p2_rowOf p2_colOf p2_below p2_face p2_worn p2_last p2_bend p2_tall ++ wd_X2 cI cL cS cH (fun k => a (k + 21)) p4_size p4_stepCount p4_draftCount p4_place p4_fault wp4_stacked p4_tape p4_steps p4_draft wp4_stack) (some (.int r)) args s) (F0 m 11 ls []) := by
  obtain ⟨hx, hb, hml, hown, hts, hr, hlocks, hK, hSt⟩ := id C0
  intro n
  induction n with
  | zero =>
    intro x1 x3 x5 v_size v_trial_rows v_trial_cols v_trial_high v_trial_wide v_trial_folds v_trial_wrong v_trial_more v_trial_rowOf v_trial_colOf v_trial_below v_trial_face v_trial_worn v_trial_last v_trial_bend v_trial_tall v_lines v_ways p2_rows p2_cols p2_high p2_wide p2_folds p2_wrong p2_more p2_rowOf p2_colOf p2_below p2_face p2_worn p2_last p4_stepCount p4_stacked p4_steps p4_stack H locs ls hf
    cases (show none = some _ from hf)
  | succ n ih =>
    intro x1 x3 x5 v_size v_trial_rows v_trial_cols v_trial_high v_trial_wide v_trial_folds v_trial_wrong v_trial_more v_trial_rowOf v_trial_colOf v_trial_below v_trial_face v_trial_worn v_trial_last v_trial_bend v_trial_tall v_lines v_ways p2_rows p2_cols p2_high p2_wide p2_folds p2_wrong p2_more p2_rowOf p2_colOf p2_below p2_face p2_worn p2_last p4_stepCount p4_stacked p4_steps p4_stack H locs ls hf hP hD hS hl
    unfold fX3_tryFirst_11 at hf
    refine lv_iload hx hb dX3_tryFirst_11 (lv_at hl 4 rfl) ?_
    refine lv_iload_n hx hb dX3_tryFirst_13 rfl (lv_at hl 1 rfl) ?_
    refine lv_icmp_ge (tgt := 84) hx hb dX3_tryFirst_14 (by decide) (fun c_15 => ?_) (fun c_15 => ?_)
    · have hf := mm_ip hf c_15
      exact tX3_tryFirst_84 hd C0 hA N  _ _ _ _ _ _ _ _ _ _ _ _ _ _ _ _ _ _ _ _ _ _ _ _ _ _ _ _ _ _ _ _ _ _ _ _ H locs ls hf hP hD hS (lv_sub hl [0, 1] rfl)
    · have hf := mm_in hf c_15
      refine lv_iload hx hb dX3_tryFirst_17 (lv_at hl 4 rfl) ?_
      refine lv_aload_n hx hb dX3_tryFirst_19 rfl (lv_at hl 0 rfl) ?_
      refine mm_get C0 hP iw_X3 0 rfl rfl 0 (by decide) fl_X3_25 rfl dX3_tryFirst_20 ?_
      refine lv_icmp_ge (tgt := 84) hx hb dX3_tryFirst_23 (by decide) (fun c_16 => ?_) (fun c_16 => ?_)
      · have hf := mm_ip hf c_16
        exact tX3_tryFirst_84 hd C0 hA N  _ _ _ _ _ _ _ _ _ _ _ _ _ _ _ _ _ _ _ _ _ _ _ _ _ _ _ _ _ _ _ _ _ _ _ _ H locs ls hf hP hD hS (lv_sub hl [0, 1] rfl)
      · have hf := mm_in hf c_16
        refine lv_aload_n hx hb dX3_tryFirst_26 rfl (lv_at hl 0 rfl) ?_
        refine mm_get C0 hP iw_X3 0 rfl rfl 1 (by decide) fl_X3_12 rfl dX3_tryFirst_27 ?_
        refine lv_aload_n hx hb dX3_tryFirst_30 rfl (lv_at hl 0 rfl) ?_
        refine mm_get C0 hP iw_X3 0 rfl rfl 2 (by decide) fl_X3_18 rfl dX3_tryFirst_31 ?_
        refine lv_iload hx hb dX3_tryFirst_34 (lv_at hl 4 rfl) ?_
        obtain ⟨h_17, hf⟩ := mm_cks hf
        refine mm_iald C0 hP 10 rfl h_17 dX3_tryFirst_36 ?_
        refine lv_aload_n hx hb dX3_tryFirst_37 rfl (lv_at hl 0 rfl) ?_
        refine mm_get C0 hP iw_X3 0 rfl rfl 3 (by decide) fl_X3_22 rfl dX3_tryFirst_38 ?_
        refine lv_iload hx hb dX3_tryFirst_41 (lv_at hl 4 rfl) ?_
        obtain ⟨h_18, hf⟩ := mm_cks hf
        refine mm_iald C0 hP 11 rfl h_18 dX3_tryFirst_43 ?_
        obtain ⟨r_19, hc_20, hf⟩ := mm_bd1s hf
        refine mm_callW (q0 := 1) (ci := 5) (w2 := (wd_X3 cI cL cS cH a v_size v_trial_rows v_trial_cols v_trial_high v_trial_wide v_trial_folds v_trial_wrong v_trial_more v_trial_rowOf v_trial_colOf v_trial_below v_trial_face v_trial_worn v_trial_last v_trial_bend v_trial_tall v_lines v_ways ++ wd_X5 cI cL cS cH (fun k => a (k + 12)) p2_rows p2_cols p2_high p2_wide p2_folds p2_wrong p2_more p2_rowOf p2_colOf p2_below p2_face p2_worn p2_last p2_bend p2_tall ++ wd_X2 cI cL cS cH (fun k => a (k + 21)) p4_size p4_stepCount p4_draftCount p4_place p4_fault p4_stacked p4_tape p4_steps p4_draft p4_stack)) (rest := []) C0 lk_X3_50 (ctX5_hasLine (a := (fun k => a (k + 1))) (d := d - 1) (by omega) hc_20) (by omega) rfl hl.1 rfl (mm_cat rfl) dX3_tryFirst_44 hP hD hA hS rfl rfl [false, true, true, true, true, true, true, true, true, true, false, false, false, false, false, false, false, false, false, false, false, false, false, false, false, false] rfl rfl rfl rfl (fun H locs hP hD hS => ?_)
        refine W.eq (g2 := F0 m 47 ls [.int (mm_b r_19)]) rfl ?_
        refine lv_if_ne (tgt := 53) hx hb dX3_tryFirst_47 (by decide) (fun c_21 => ?_) (fun c_21 => ?_)
        · have hf := mm_in hf (mm_b1 c_21)
          refine lv_aload_n hx hb dX3_tryFirst_53 rfl (lv_at hl 0 rfl) ?_
          refine mm_get C0 hP iw_X3 0 rfl rfl 1 (by decide) fl_X3_12 rfl dX3_tryFirst_54 ?_
          refine lv_aload_n hx hb dX3_tryFirst_57 rfl (lv_at hl 0 rfl) ?_
          refine mm_get C0 hP iw_X3 0 rfl rfl 2 (by decide) fl_X3_18 rfl dX3_tryFirst_58 ?_
          refine lv_iload hx hb dX3_tryFirst_61 (lv_at hl 4 rfl) ?_
          obtain ⟨h_22, hf⟩ := mm_cks hf
          refine mm_iald C0 hP 10 rfl h_22 dX3_tryFirst_63 ?_
          refine lv_aload_n hx hb dX3_tryFirst_64 rfl (lv_at hl 0 rfl) ?_
          refine mm_get C0 hP iw_X3 0 rfl rfl 3 (by decide) fl_X3_22 rfl dX3_tryFirst_65 ?_
          refine lv_iload hx hb dX3_tryFirst_68 (lv_at hl 4 rfl) ?_
          obtain ⟨h_23, hf⟩ := mm_cks hf
          refine mm_iald C0 hP 11 rfl h_23 dX3_tryFirst_70 ?_
          refine lv_iload_n hx hb dX3_tryFirst_71 rfl (lv_at hl 2 rfl) ?_
          refine lv_aload hx hb dX3_tryFirst_72 (lv_at hl 3 rfl) ?_
          refine mm_ct16 hf (fun r_24 w_25 w_26 w_27 w_28 w_29 w_30 w_31 w_32 w_33 w_34 w_35 w_36 w_37 w_38 w_39 hc_40 hf => ?_)
          refine mm_callW (q0 := 1) (ci := 5) (w2 := (wd_X3 cI cL cS cH a v_size v_trial_rows v_trial_cols w_25 w_26 w_27 w_28 w_29 w_30 w_31 w_32 w_33 w_34 w_35 w_36 w_37 v_lines v_ways ++ wd_X5 cI cL cS cH (fun k => a (k + 12)) p2_rows p2_cols p2_high p2_wide p2_folds p2_wrong p2_more p2_rowOf p2_colOf p2_below p2_face p2_worn p2_last p2_bend p2_tall ++ wd_X2 cI cL cS cH (fun k => a (k + 21)) p4_size p4_stepCount p4_draftCount p4_place p4_fault w_38 p4_tape p4_steps p4_draft w_39)) (rest := []) C0 lk_X3_53 (ctX5_bendAndTurn (a := (fun k => a ([1, 2, 3, 4, 5, 6, 7, 8, 9, 21, 22, 23, 24, 25].getD k 0))) (d := d - 1) (by omega) hc_40) (by omega) rfl hl.1 rfl (mm_cat rfl) dX3_tryFirst_74 hP hD hA hS rfl rfl [false, true, true, true, true, true, true, true, true, true, false, false, false, false, false, false, false, false, false, false, false, true, true, true, true, true] rfl rfl rfl rfl (fun H locs hP hD hS => ?_)
          refine W.eq (g2 := F0 m 77 ls [.int r_24]) rfl ?_
          refine lv_pop hx hb dX3_tryFirst_77 rfl ?_
          obtain ⟨y_41, ey_41⟩ : ∃ z : Int32, z = x5 + (1 : Int32) := ⟨_, rfl⟩
          have hf := mm_nms hf ey_41
          refine lv_iinc (v := y_41) (lv' := [(5, .int y_41), (0, .ref (a 0)), (1, .int x1), (3, .int x3), (4, .ref (a 21))]) hx hb dX3_tryFirst_78 hl (k := 4) rfl (by rw [ey_41]; rfl) (by decide) rfl (fun ls hl => ?_)
          refine lv_goto (tgt := 11) hx hb dX3_tryFirst_81 (by decide) ?_
          exact ih _ _ _ _ _ _ _ _ _ _ _ _ _ _ _ _ _ _ _ _ _ _ _ _ _ _ _ _ _ _ _ _ _ _ _ _ _ _ H locs ls hf hP hD hS (lv_sub hl [1, 2, 3, 4, 0] rfl)
        · have hf := mm_ip hf (mm_b0 c_21)
          refine lv_iload hx hb dX3_tryFirst_50 (lv_at hl 4 rfl) ?_
          apply mm_sub18 hf
          exact mm_iret C0 hP hD hS dX3_tryFirst_52

def fX3_tryFirst (N : Nat) (x1 : Int32) (x3 : Int32) (v_size : Int32) (v_trial_rows : Int32) (v_trial_cols : Int32) (v_trial_high : Int32) (v_trial_wide : Int32) (v_trial_folds : Int32) (v_trial_wrong : Int32) (v_trial_more : Int32) (v_trial_rowOf : List Int32) (v_trial_colOf : List Int32) (v_trial_below : List Int32) (v_trial_face : List Int32) (v_trial_worn : List Int32) (v_trial_last : List Int32) (v_trial_bend : List Int32) (v_trial_tall : List Int32) (v_lines : List Int32) (v_ways : List Int32) (p2_rows : Int32) (p2_cols : Int32) (p2_high : Int32) (p2_wide : Int32) (p2_folds : Int32) (p2_wrong : Int32) (p2_more : Int32) (p2_rowOf : List Int32) (p2_colOf : List Int32) (p2_below : List Int32) (p2_face : List Int32) (p2_worn : List Int32) (p2_last : List Int32) (p4_stepCount : Int32) (p4_stacked : Int32) (p4_steps : List Int32) (p4_stack : List Int32) : Option (Int32 × Int32 × Int32 × Int32 × Int32 × Int32 × Int32 × Int32 × List Int32 × List Int32 × List Int32 × List Int32 × List Int32 × List Int32 × List Int32 × List Int32 × Int32 × List Int32) :=
    mm_bd13 (fX5_beginTrial N v_trial_rows v_trial_cols v_trial_high v_trial_wide v_trial_folds v_trial_wrong v_trial_more v_trial_rowOf v_trial_colOf v_trial_below v_trial_face v_trial_worn v_trial_last p2_rows p2_cols p2_high p2_wide p2_folds p2_wrong p2_more p2_rowOf p2_colOf p2_below p2_face p2_worn p2_last) (fun (w_1 : Int32) (w_2 : Int32) (w_3 : Int32) (w_4 : Int32) (w_5 : Int32) (w_6 : Int32) (w_7 : Int32) (w_8 : List Int32) (w_9 : List Int32) (w_10 : List Int32) (w_11 : List Int32) (w_12 : List Int32) (w_13 : List Int32) =>
    fX3_tryFirst_11 N N x1 x3 (0 : Int32) v_size w_1 w_2 w_3 w_4 w_5 w_6 w_7 w_8 w_9 w_10 w_11 w_12 w_13 v_trial_bend v_trial_tall v_lines v_ways p2_rows p2_cols p2_high p2_wide p2_folds p2_wrong p2_more p2_rowOf p2_colOf p2_below p2_face p2_worn p2_last p4_stepCount p4_stacked p4_steps p4_stack)

set_option maxHeartbeats 4000000 in
set_option maxRecDepth 100000 in
theorem ctX3_tryFirst {l : Launch} {D : va_G} {cI cL cS cH : ClassId} {a : Nat → Nat} {x1 : Int32} {x3 : Int32} {v_size : Int32} {v_trial_rows : Int32} {v_trial_cols : Int32} {v_trial_high : Int32} {v_trial_wide : Int32} {v_trial_folds : Int32} {v_trial_wrong : Int32} {v_trial_more : Int32} {v_trial_rowOf : List Int32} {v_trial_colOf : List Int32} {v_trial_below : List Int32} {v_trial_face : List Int32} {v_trial_worn : List Int32} {v_trial_last : List Int32} {v_trial_bend : List Int32} {v_trial_tall : List Int32} {v_lines : List Int32} {v_ways : List Int32} {p2_rows : Int32} {p2_cols : Int32} {p2_high : Int32} {p2_wide : Int32} {p2_folds : Int32} {p2_wrong : Int32} {p2_more : Int32} {p2_rowOf : List Int32} {p2_colOf : List Int32} {p2_below : List Int32} {p2_face : List Int32} {p2_worn : List Int32} {p2_last : List Int32} {p2_bend : List Int32} {p2_tall : List Int32} {p4_size : Int32} {p4_stepCount : Int32} {p4_draftCount : Int32} {p4_place : Int32} {p4_fault : Int32} {p4_stacked : Int32} {p4_tape : List Int32} {p4_steps : List Int32} {p4_draft : List Int32} {p4_stack : List Int32} {r : Int32} {w_trial_rows : Int32} {w_trial_cols : Int32} {w_trial_high : Int32} {w_trial_wide : Int32} {w_trial_folds : Int32} {w_trial_wrong : Int32} {w_trial_more : Int32} {w_trial_rowOf : List Int32} {w_trial_colOf : List Int32} {w_trial_below : List Int32} {w_trial_face : List Int32} {w_trial_worn : List Int32} {w_trial_last : List Int32} {w_trial_bend : List Int32} {w_trial_tall : List Int32} {wp4_stacked : Int32} {wp4_stack : List Int32} {N d : Nat} (hd : 6 ≤ d) (hf : fX3_tryFirst N x1 x3 v_size v_trial_rows v_trial_cols v_trial_high v_trial_wide v_trial_folds v_trial_wrong v_trial_more v_trial_rowOf v_trial_colOf v_trial_below v_trial_face v_trial_worn v_trial_last v_trial_bend v_trial_tall v_lines v_ways p2_rows p2_cols p2_high p2_wide p2_folds p2_wrong p2_more p2_rowOf p2_colOf p2_below p2_face p2_worn p2_last p4_stepCount p4_stacked p4_steps p4_stack = some (r, w_trial_rows, w_trial_cols, w_trial_high, w_trial_wide, w_trial_folds, w_trial_wrong, w_trial_more, w_trial_rowOf, w_trial_colOf, w_trial_below, w_trial_face, w_trial_worn, w_trial_last, w_trial_bend, w_trial_tall, wp4_stacked, wp4_stack)) : mm_Ct l yX3_tryFirst cX3_tryFirst 6 (some .int) d D (mm_T cI cL cS cH) [.ref (a 0), .int x1, .ref (a 12), .int x3, .ref (a 21)] (wd_X3 cI cL cS cH a v_size v_trial_rows v_trial_cols v_trial_high v_trial_wide v_trial_folds v_trial_wrong v_trial_more v_trial_rowOf v_trial_colOf v_trial_below v_trial_face v_trial_worn v_trial_last v_trial_bend v_trial_tall v_lines v_ways ++ wd_X5 cI cL cS cH (fun k => a (k + 12)) p2_rows p2_cols p2_high p2_wide p2_folds p2_wrong p2_more p2_rowOf p2_colOf p2_below p2_face p2_worn p2_last p2_bend p2_tall ++ wd_X2 cI cL cS cH (fun k => a (k + 21)) p4_size p4_stepCount p4_draftCount p4_place p4_fault p4_stacked p4_tape p4_steps p4_draft p4_stack) (wd_X3 cI cL cS cH a v_size w_trial_rows w_trial_cols w_trial_high w_trial_wide w_trial_folds w_trial_wrong w_trial_more w_trial_rowOf w_trial_colOf w_trial_below w_trial_face w_trial_worn w_trial_last w_trial_bend w_trial_tall v_lines v_ways ++ wd_X5 cI cL cS cH (fun k => a (k + 12)) p2_rows p2_cols p2_high p2_wide p2_folds p2_wrong p2_more p2_rowOf p2_colOf p2_below p2_face p2_worn p2_last p2_bend p2_tall ++ wd_X2 cI cL cS cH (fun k => a (k + 21)) p4_size p4_stepCount p4_draftCount p4_place p4_fault wp4_stacked p4_tape p4_steps p4_draft wp4_stack) (some (.int r)) := by
  refine mm_of (by decide) (Nat.le_of_ble_eq_true rfl) ?_
  intro p e s m args below meth c A H locs ls C0 hP hD hA hS hl
  have C0 : mm_Cx p s m args meth c RX3 cX3_tryFirst 6 (some .int) D (mm_T cI cL cS cH) A := C0
  obtain ⟨hx, hb, hml, hown, hts, hr, hlocks, hK, hSt⟩ := id C0
  have hl : lv_has ls 6 [(0, .ref (a 0)), (1, .int x1), (2, .ref (a 12)), (3, .int x3), (4, .ref (a 21))] := hl
  unfold fX3_tryFirst at hf
  refine lv_aload_n hx hb dX3_tryFirst_0 rfl (lv_at hl 0 rfl) ?_
  refine mm_get C0 hP iw_X3 0 rfl rfl 1 (by decide) fl_X3_12 rfl dX3_tryFirst_1 ?_
  refine lv_aload_n hx hb dX3_tryFirst_4 rfl (lv_at hl 2 rfl) ?_
  refine mm_ct13 hf (fun w_1 w_2 w_3 w_4 w_5 w_6 w_7 w_8 w_9 w_10 w_11 w_12 w_13 hc_14 hf => ?_)
  refine mm_callW (q0 := 1) (ci := 5) (w2 := (wd_X3 cI cL cS cH a v_size w_1 w_2 w_3 w_4 w_5 w_6 w_7 w_8 w_9 w_10 w_11 w_12 w_13 v_trial_bend v_trial_tall v_lines v_ways ++ wd_X5 cI cL cS cH (fun k => a (k + 12)) p2_rows p2_cols p2_high p2_wide p2_folds p2_wrong p2_more p2_rowOf p2_colOf p2_below p2_face p2_worn p2_last p2_bend p2_tall ++ wd_X2 cI cL cS cH (fun k => a (k + 21)) p4_size p4_stepCount p4_draftCount p4_place p4_fault p4_stacked p4_tape p4_steps p4_draft p4_stack)) (rest := []) C0 lk_X3_46 (ctX5_beginTrial (a := (fun k => a ([1, 2, 3, 4, 5, 6, 7, 8, 9, 12, 13, 14, 15, 16, 17, 18, 19, 20].getD k 0))) (d := d - 1) (by omega) hc_14) (by omega) rfl hl.1 rfl (mm_cat rfl) dX3_tryFirst_5 hP hD hA hS rfl rfl [false, true, true, true, true, true, true, true, true, true, false, false, true, true, true, true, true, true, true, true, true, false, false, false, false, false] rfl rfl rfl rfl (fun H locs hP hD hS => ?_)
  refine W.eq (g2 := F0 m 8 ls []) rfl ?_
  refine lv_iconst (v := 0) hx hb dX3_tryFirst_8 (by decide) ?_
  refine lv_istore (lv' := [(5, .int (0 : Int32)), (0, .ref (a 0)), (1, .int x1), (2, .ref (a 12)), (3, .int x3), (4, .ref (a 21))]) hx hb dX3_tryFirst_9 hl (by decide) rfl (fun ls hl => ?_)
  exact tX3_tryFirst_11 hd C0 hA N  N _ _ _ _ _ _ _ _ _ _ _ _ _ _ _ _ _ _ _ _ _ _ _ _ _ _ _ _ _ _ _ _ _ _ _ _ _ _ H locs ls hf hP hD hS (lv_sub hl [1, 2, 4, 5, 0] rfl)

theorem dX3_tryInWind_0 : decode cX3_tryInWind 0 = .ok (.iload 4, 2) := by decide +kernel
theorem dX3_tryInWind_2 : decode cX3_tryInWind 2 = .ok (.istore 6, 2) := by decide +kernel
theorem dX3_tryInWind_4 : decode cX3_tryInWind 4 = .ok (.aload_n 0, 1) := by decide +kernel
theorem dX3_tryInWind_5 : decode cX3_tryInWind 5 = .ok (.getfield 12, 3) := by decide +kernel
theorem dX3_tryInWind_8 : decode cX3_tryInWind 8 = .ok (.aload_n 1, 1) := by decide +kernel
theorem dX3_tryInWind_9 : decode cX3_tryInWind 9 = .ok (.invokevirtual 46, 3) := by decide +kernel
theorem dX3_tryInWind_12 : decode cX3_tryInWind 12 = .ok (.iconst 0, 1) := by decide +kernel
theorem dX3_tryInWind_13 : decode cX3_tryInWind 13 = .ok (.istore 7, 2) := by decide +kernel
theorem dX3_tryInWind_15 : decode cX3_tryInWind 15 = .ok (.iload 7, 2) := by decide +kernel
theorem dX3_tryInWind_17 : decode cX3_tryInWind 17 = .ok (.aload_n 0, 1) := by decide +kernel
theorem dX3_tryInWind_18 : decode cX3_tryInWind 18 = .ok (.getfield 25, 3) := by decide +kernel
theorem dX3_tryInWind_21 : decode cX3_tryInWind 21 = .ok (.if_icmp .ge 97, 3) := by decide +kernel
theorem dX3_tryInWind_24 : decode cX3_tryInWind 24 = .ok (.aload_n 0, 1) := by decide +kernel
theorem dX3_tryInWind_25 : decode cX3_tryInWind 25 = .ok (.getfield 12, 3) := by decide +kernel
theorem dX3_tryInWind_28 : decode cX3_tryInWind 28 = .ok (.aload_n 0, 1) := by decide +kernel
theorem dX3_tryInWind_29 : decode cX3_tryInWind 29 = .ok (.getfield 18, 3) := by decide +kernel
theorem dX3_tryInWind_32 : decode cX3_tryInWind 32 = .ok (.iload 7, 2) := by decide +kernel
theorem dX3_tryInWind_34 : decode cX3_tryInWind 34 = .ok (.iaload, 1) := by decide +kernel
theorem dX3_tryInWind_35 : decode cX3_tryInWind 35 = .ok (.aload_n 0, 1) := by decide +kernel
theorem dX3_tryInWind_36 : decode cX3_tryInWind 36 = .ok (.getfield 22, 3) := by decide +kernel
theorem dX3_tryInWind_39 : decode cX3_tryInWind 39 = .ok (.iload 7, 2) := by decide +kernel
theorem dX3_tryInWind_41 : decode cX3_tryInWind 41 = .ok (.iaload, 1) := by decide +kernel
theorem dX3_tryInWind_42 : decode cX3_tryInWind 42 = .ok (.invokevirtual 50, 3) := by decide +kernel
theorem dX3_tryInWind_45 : decode cX3_tryInWind 45 = .ok (.ifCond .eq 73, 3) := by decide +kernel
theorem dX3_tryInWind_48 : decode cX3_tryInWind 48 = .ok (.iload 6, 2) := by decide +kernel
theorem dX3_tryInWind_50 : decode cX3_tryInWind 50 = .ok (.ldc 63, 2) := by decide +kernel
theorem dX3_tryInWind_52 : decode cX3_tryInWind 52 = .ok (.imul, 1) := by decide +kernel
theorem dX3_tryInWind_53 : decode cX3_tryInWind 53 = .ok (.sipush 12345, 3) := by decide +kernel
theorem dX3_tryInWind_56 : decode cX3_tryInWind 56 = .ok (.iadd, 1) := by decide +kernel
theorem dX3_tryInWind_57 : decode cX3_tryInWind 57 = .ok (.istore 6, 2) := by decide +kernel
theorem dX3_tryInWind_59 : decode cX3_tryInWind 59 = .ok (.iload 6, 2) := by decide +kernel
theorem dX3_tryInWind_61 : decode cX3_tryInWind 61 = .ok (.bipush 8, 2) := by decide +kernel
theorem dX3_tryInWind_63 : decode cX3_tryInWind 63 = .ok (.iushr, 1) := by decide +kernel
theorem dX3_tryInWind_64 : decode cX3_tryInWind 64 = .ok (.bipush 100, 2) := by decide +kernel
theorem dX3_tryInWind_66 : decode cX3_tryInWind 66 = .ok (.irem, 1) := by decide +kernel
theorem dX3_tryInWind_67 : decode cX3_tryInWind 67 = .ok (.iload 5, 2) := by decide +kernel
theorem dX3_tryInWind_69 : decode cX3_tryInWind 69 = .ok (.if_icmp .ge 15, 3) := by decide +kernel
theorem dX3_tryInWind_72 : decode cX3_tryInWind 72 = .ok (.aload_n 0, 1) := by decide +kernel
theorem dX3_tryInWind_73 : decode cX3_tryInWind 73 = .ok (.getfield 22, 3) := by decide +kernel
theorem dX3_tryInWind_76 : decode cX3_tryInWind 76 = .ok (.iload 7, 2) := by decide +kernel
theorem dX3_tryInWind_78 : decode cX3_tryInWind 78 = .ok (.iaload, 1) := by decide +kernel
theorem dX3_tryInWind_79 : decode cX3_tryInWind 79 = .ok (.iconst 1, 1) := by decide +kernel
theorem dX3_tryInWind_80 : decode cX3_tryInWind 80 = .ok (.ixor, 1) := by decide +kernel
theorem dX3_tryInWind_81 : decode cX3_tryInWind 81 = .ok (.goto 10, 3) := by decide +kernel
theorem dX3_tryInWind_84 : decode cX3_tryInWind 84 = .ok (.aload_n 0, 1) := by decide +kernel
theorem dX3_tryInWind_85 : decode cX3_tryInWind 85 = .ok (.getfield 22, 3) := by decide +kernel
theorem dX3_tryInWind_88 : decode cX3_tryInWind 88 = .ok (.iload 7, 2) := by decide +kernel
theorem dX3_tryInWind_90 : decode cX3_tryInWind 90 = .ok (.iaload, 1) := by decide +kernel
theorem dX3_tryInWind_91 : decode cX3_tryInWind 91 = .ok (.istore 8, 2) := by decide +kernel
theorem dX3_tryInWind_93 : decode cX3_tryInWind 93 = .ok (.aload_n 0, 1) := by decide +kernel
theorem dX3_tryInWind_94 : decode cX3_tryInWind 94 = .ok (.getfield 12, 3) := by decide +kernel
theorem dX3_tryInWind_97 : decode cX3_tryInWind 97 = .ok (.aload_n 0, 1) := by decide +kernel
theorem dX3_tryInWind_98 : decode cX3_tryInWind 98 = .ok (.getfield 18, 3) := by decide +kernel
theorem dX3_tryInWind_101 : decode cX3_tryInWind 101 = .ok (.iload 7, 2) := by decide +kernel
theorem dX3_tryInWind_103 : decode cX3_tryInWind 103 = .ok (.iaload, 1) := by decide +kernel
theorem dX3_tryInWind_104 : decode cX3_tryInWind 104 = .ok (.iload 8, 2) := by decide +kernel
theorem dX3_tryInWind_106 : decode cX3_tryInWind 106 = .ok (.iload_n 2, 1) := by decide +kernel
theorem dX3_tryInWind_107 : decode cX3_tryInWind 107 = .ok (.aload_n 3, 1) := by decide +kernel
theorem dX3_tryInWind_108 : decode cX3_tryInWind 108 = .ok (.invokevirtual 53, 3) := by decide +kernel
theorem dX3_tryInWind_111 : decode cX3_tryInWind 111 = .ok (.pop, 1) := by decide +kernel
theorem dX3_tryInWind_112 : decode cX3_tryInWind 112 = .ok (.iinc 7 1, 3) := by decide +kernel
theorem dX3_tryInWind_115 : decode cX3_tryInWind 115 = .ok (.goto (-100), 3) := by decide +kernel
theorem dX3_tryInWind_118 : decode cX3_tryInWind 118 = .ok (.iload 6, 2) := by decide +kernel
theorem dX3_tryInWind_120 : decode cX3_tryInWind 120 = .ok (.ireturn, 1) := by decide +kernel
def fX3_tryInWind_91 (N : Nat) (k_15 : Int32 → Int32 → Int32 → Int32 → Int32 → Int32 → Int32 → Int32 → Int32 → Int32 → Int32 → Int32 → List Int32 → List Int32 → List Int32 → List Int32 → List Int32 → List Int32 → List Int32 → List Int32 → List Int32 → List Int32 → Int32 → Int32 → Int32 → Int32 → Int32 → Int32 → Int32 → List Int32 → List Int32 → List Int32 → List Int32 → List Int32 → List Int32 → Int32 → Int32 → List Int32 → List Int32 → Option (Int32 × Int32 × Int32 × Int32 × Int32 × Int32 × Int32 × Int32 × List Int32 × List Int32 × List Int32 × List Int32 × List Int32 × List Int32 × List Int32 × List Int32 × Int32 × List Int32)) (x2 : Int32) (x5 : Int32) (x6 : Int32) (x7 : Int32) (s0 : Int32) (v_size : Int32) (v_trial_rows : Int32) (v_trial_cols : Int32) (v_trial_high : Int32) (v_trial_wide : Int32) (v_trial_folds : Int32) (v_trial_wrong : Int32) (v_trial_more : Int32) (v_trial_rowOf : List Int32) (v_trial_colOf : List Int32) (v_trial_below : List Int32) (v_trial_face : List Int32) (v_trial_worn : List Int32) (v_trial_last : List Int32) (v_trial_bend : List Int32) (v_trial_tall : List Int32) (v_lines : List Int32) (v_ways : List Int32) (p1_rows : Int32) (p1_cols : Int32) (p1_high : Int32) (p1_wide : Int32) (p1_folds : Int32) (p1_wrong : Int32) (p1_more : Int32) (p1_rowOf : List Int32) (p1_colOf : List Int32) (p1_below : List Int32) (p1_face : List Int32) (p1_worn : List Int32) (p1_last : List Int32) (p3_stepCount : Int32) (p3_stacked : Int32) (p3_steps : List Int32) (p3_stack : List Int32) : Option (Int32 × Int32 × Int32 × Int32 × Int32 × Int32 × Int32 × Int32 × List Int32 × List Int32 × List Int32 × List Int32 × List Int32 × List Int32 × List Int32 × List Int32 × Int32 × List Int32) :=
    mm_ck (mm_inb x7 v_lines.length) (mm_bd16 (fX5_bendAndTurn N (mm_ig v_lines x7) s0 x2 v_trial_rows v_trial_cols v_trial_high v_trial_wide v_trial_folds v_trial_wrong v_trial_more v_trial_rowOf v_trial_colOf v_trial_below v_trial_face v_trial_worn v_trial_last v_trial_bend v_trial_tall p3_stepCount p3_stacked p3_steps p3_stack) (fun (r_27 : Int32) (w_28 : Int32) (w_29 : Int32) (w_30 : Int32) (w_31 : Int32) (w_32 : Int32) (w_33 : List Int32) (w_34 : List Int32) (w_35 : List Int32) (w_36 : List Int32) (w_37 : List Int32) (w_38 : List Int32) (w_39 : List Int32) (w_40 : List Int32) (w_41 : Int32) (w_42 : List Int32) =>
    mm_nm (x7 + (1 : Int32)) (fun (y_44 : Int32) =>
    k_15 x2 x5 x6 y_44 v_size v_trial_rows v_trial_cols w_28 w_29 w_30 w_31 w_32 w_33 w_34 w_35 w_36 w_37 w_38 w_39 w_40 v_lines v_ways p1_rows p1_cols p1_high p1_wide p1_folds p1_wrong p1_more p1_rowOf p1_colOf p1_below p1_face p1_worn p1_last p3_stepCount w_41 p3_steps w_42)))

set_option maxHeartbeats 4000000 in
set_option maxRecDepth 100000 in
theorem tX3_tryInWind_91 {p : Program} {l : Launch} {e : Env} {s : State} {m : MethodId} {args : Array Value} {below : List Frame} {meth : Method} {c : Code} {D : va_G} {cI cL cS cH : ClassId} {A : Nat → Prop} {d : Nat} {a : Nat → Nat} (hd : 6 ≤ d) (C0 : mm_Cx p s m args meth c RX3 cX3_tryInWind 9 (some .int) D (mm_T cI cL cS cH) A) (hA : ∀ q, s.heap.size ≤ q → A q) {p1_bend : List Int32} {p1_tall : List Int32} {p3_size : Int32} {p3_draftCount : Int32} {p3_place : Int32} {p3_fault : Int32} {p3_tape : List Int32} {p3_draft : List Int32} {r : Int32} {w_trial_rows : Int32} {w_trial_cols : Int32} {w_trial_high : Int32} {w_trial_wide : Int32} {w_trial_folds : Int32} {w_trial_wrong : Int32} {w_trial_more : Int32} {w_trial_rowOf : List Int32} {w_trial_colOf : List Int32} {w_trial_below : List Int32} {w_trial_face : List Int32} {w_trial_worn : List Int32} {w_trial_last : List Int32} {w_trial_bend : List Int32} {w_trial_tall : List Int32} {wp3_stacked : Int32} {wp3_stack : List Int32} (N : Nat) {k_15 : Int32 → Int32 → Int32 → Int32 → Int32 → Int32 → Int32 → Int32 → Int32 → Int32 → Int32 → Int32 → List Int32 → List Int32 → List Int32 → List Int32 → List Int32 → List Int32 → List Int32 → List Int32 → List Int32 → List Int32 → Int32 → Int32 → Int32 → Int32 → Int32 → Int32 → Int32 → List Int32 → List Int32 → List Int32 → List Int32 → List Int32 → List Int32 → Int32 → Int32 → List Int32 → List Int32 → Option (Int32 × Int32 × Int32 × Int32 × Int32 × Int32 × Int32 × Int32 × List Int32 × List Int32 × List Int32 × List Int32 × List Int32 × List Int32 × List Int32 × List Int32 × Int32 × List Int32)} (hk_15 : ∀ (x2 : Int32) (x5 : Int32) (x6 : Int32) (x7 : Int32) (v_size : Int32) (v_trial_rows : Int32) (v_trial_cols : Int32) (v_trial_high : Int32) (v_trial_wide : Int32) (v_trial_folds : Int32) (v_trial_wrong : Int32) (v_trial_more : Int32) (v_trial_rowOf : List Int32) (v_trial_colOf : List Int32) (v_trial_below : List Int32) (v_trial_face : List Int32) (v_trial_worn : List Int32) (v_trial_last : List Int32) (v_trial_bend : List Int32) (v_trial_tall : List Int32) (v_lines : List Int32) (v_ways : List Int32) (p1_rows : Int32) (p1_cols : Int32) (p1_high : Int32) (p1_wide : Int32) (p1_folds : Int32) (p1_wrong : Int32) (p1_more : Int32) (p1_rowOf : List Int32) (p1_colOf : List Int32) (p1_below : List Int32) (p1_face : List Int32) (p1_worn : List Int32) (p1_last : List Int32) (p3_stepCount : Int32) (p3_stacked : Int32) (p3_steps : List Int32) (p3_stack : List Int32) (H : Heap) (locs : List Loc) (ls : Array Slot), k_15 x2 x5 x6 x7 v_size v_trial_rows v_trial_cols v_trial_high v_trial_wide v_trial_folds v_trial_wrong v_trial_more v_trial_rowOf v_trial_colOf v_trial_below v_trial_face v_trial_worn v_trial_last v_trial_bend v_trial_tall v_lines v_ways p1_rows p1_cols p1_high p1_wide p1_folds p1_wrong p1_more p1_rowOf p1_colOf p1_below p1_face p1_worn p1_last p3_stepCount p3_stacked p3_steps p3_stack = some (r, w_trial_rows, w_trial_cols, w_trial_high, w_trial_wide, w_trial_folds, w_trial_wrong, w_trial_more, w_trial_rowOf, w_trial_colOf, w_trial_below, w_trial_face, w_trial_worn, w_trial_last, w_trial_bend, w_trial_tall, wp3_stacked, wp3_stack) → va_P D mm_cl (wd_X3 cI cL cS cH a v_size v_trial_rows v_trial_cols v_trial_high v_trial_wide v_trial_folds v_trial_wrong v_trial_more v_trial_rowOf v_trial_colOf v_trial_below v_trial_face v_trial_worn v_trial_last v_trial_bend v_trial_tall v_lines v_ways ++ wd_X5 cI cL cS cH (fun k => a (k + 12)) p1_rows p1_cols p1_high p1_wide p1_folds p1_wrong p1_more p1_rowOf p1_colOf p1_below p1_face p1_worn p1_last p1_bend p1_tall ++ wd_X2 cI cL cS cH (fun k => a (k + 21)) p3_size p3_stepCount p3_draftCount p3_place p3_fault p3_stacked p3_tape p3_steps p3_draft p3_stack) H → va_D A (wd_X3 cI cL cS cH a v_size v_trial_rows v_trial_cols v_trial_high v_trial_wide v_trial_folds v_trial_wrong v_trial_more v_trial_rowOf v_trial_colOf v_trial_below v_trial_face v_trial_worn v_trial_last v_trial_bend v_trial_tall v_lines v_ways ++ wd_X5 cI cL cS cH (fun k => a (k + 12)) p1_rows p1_cols p1_high p1_wide p1_folds p1_wrong p1_more p1_rowOf p1_colOf p1_below p1_face p1_worn p1_last p1_bend p1_tall ++ wd_X2 cI cL cS cH (fun k => a (k + 21)) p3_size p3_stepCount p3_draftCount p3_place p3_fault p3_stacked p3_tape p3_steps p3_draft p3_stack) → va_S A s.heap H locs → lv_has ls 9 [(0, .ref (a 0)), (2, .int x2), (3, .ref (a 21)), (5, .int x5), (6, .int x6), (7, .int x7)] → W p l e (mm_rr d) s m args below meth c H locs 0 0 (mm_Z below D A (wd_X3 cI cL cS cH a v_size w_trial_rows w_trial_cols w_trial_high w_trial_wide w_trial_folds w_trial_wrong w_trial_more w_trial_rowOf w_trial_colOf w_trial_below w_trial_face w_trial_worn w_trial_last w_trial_bend w_trial_tall v_lines v_ways ++ wd_X5 cI cL cS cH (fun k => a (k + 12)) p1_rows p1_cols p1_high p1_wide p1_folds p1_wrong p1_more p1_rowOf p1_colOf p1_below p1_face p1_worn p1_last p1_bend p1_tall ++ wd_X2 cI cL cS cH (fun k => a (k + 21)) p3_size p3_stepCount p3_draftCount p3_place p3_fault wp3_stacked p3_tape p3_steps p3_draft wp3_stack) (some (.int r)) args s) (F0 m 15 ls [])) : ∀ (x2 : Int32) (x5 : Int32) (x6 : Int32) (x7 : Int32) (s0 : Int32) (v_size : Int32) (v_trial_rows : Int32) (v_trial_cols : Int32) (v_trial_high : Int32) (v_trial_wide : Int32) (v_trial_folds : Int32) (v_trial_wrong : Int32) (v_trial_more : Int32) (v_trial_rowOf : List Int32) (v_trial_colOf : List Int32) (v_trial_below : List Int32) (v_trial_face : List Int32) (v_trial_worn : List Int32) (v_trial_last : List Int32) (v_trial_bend : List Int32) (v_trial_tall : List Int32) (v_lines : List Int32) (v_ways : List Int32) (p1_rows : Int32) (p1_cols : Int32) (p1_high : Int32) (p1_wide : Int32) (p1_folds : Int32) (p1_wrong : Int32) (p1_more : Int32) (p1_rowOf : List Int32) (p1_colOf : List Int32) (p1_below : List Int32) (p1_face : List Int32) (p1_worn : List Int32) (p1_last : List Int32) (p3_stepCount : Int32) (p3_stacked : Int32) (p3_steps : List Int32) (p3_stack : List Int32) (H : Heap) (locs : List Loc) (ls : Array Slot), fX3_tryInWind_91 N k_15 x2 x5 x6 x7 s0 v_size v_trial_rows v_trial_cols v_trial_high v_trial_wide v_trial_folds v_trial_wrong v_trial_more v_trial_rowOf v_trial_colOf v_trial_below v_trial_face v_trial_worn v_trial_last v_trial_bend v_trial_tall v_lines v_ways p1_rows p1_cols p1_high p1_wide p1_folds p1_wrong p1_more p1_rowOf p1_colOf p1_below p1_face p1_worn p1_last p3_stepCount p3_stacked p3_steps p3_stack = some (r, w_trial_rows, w_trial_cols, w_trial_high, w_trial_wide, w_trial_folds, w_trial_wrong, w_trial_more, w_trial_rowOf, w_trial_colOf, w_trial_below, w_trial_face, w_trial_worn, w_trial_last, w_trial_bend, w_trial_tall, wp3_stacked, wp3_stack) → va_P D mm_cl (wd_X3 cI cL cS cH a v_size v_trial_rows v_trial_cols v_trial_high v_trial_wide v_trial_folds v_trial_wrong v_trial_more v_trial_rowOf v_trial_colOf v_trial_below v_trial_face v_trial_worn v_trial_last v_trial_bend v_trial_tall v_lines v_ways ++ wd_X5 cI cL cS cH (fun k => a (k + 12)) p1_rows p1_cols p1_high p1_wide p1_folds p1_wrong p1_more p1_rowOf p1_colOf p1_below p1_face p1_worn p1_last p1_bend p1_tall ++ wd_X2 cI cL cS cH (fun k => a (k + 21)) p3_size p3_stepCount p3_draftCount p3_place p3_fault p3_stacked p3_tape p3_steps p3_draft p3_stack) H → va_D A (wd_X3 cI cL cS cH a v_size v_trial_rows v_trial_cols v_trial_high v_trial_wide v_trial_folds v_trial_wrong v_trial_more v_trial_rowOf v_trial_colOf v_trial_below v_trial_face v_trial_worn v_trial_last v_trial_bend v_trial_tall v_lines v_ways ++ wd_X5 cI cL cS cH (fun k => a (k + 12)) p1_rows p1_cols p1_high p1_wide p1_folds p1_wrong p1_more p1_rowOf p1_colOf p1_below p1_face p1_worn p1_last p1_bend p1_tall ++ wd_X2 cI cL cS cH (fun k => a (k + 21)) p3_size p3_stepCount p3_draftCount p3_place p3_fault p3_stacked p3_tape p3_steps p3_draft p3_stack) → va_S A s.heap H locs → lv_has ls 9 [(0, .ref (a 0)), (2, .int x2), (3, .ref (a 21)), (5, .int x5), (6, .int x6), (7, .int x7)] → W p l e (mm_rr d) s m args below meth c H locs 0 0 (mm_Z below D A (wd_X3 cI cL cS cH a v_size w_trial_rows w_trial_cols w_trial_high w_trial_wide w_trial_folds w_trial_wrong w_trial_more w_trial_rowOf w_trial_colOf w_trial_below w_trial_face w_trial_worn w_trial_last w_trial_bend w_trial_tall v_lines v_ways ++ wd_X5 cI cL cS cH (fun k => a (k + 12)) p1_rows p1_cols p1_high p1_wide p1_folds p1_wrong p1_more p1_rowOf p1_colOf p1_below p1_face p1_worn p1_last p1_bend p1_tall ++ wd_X2 cI cL cS cH (fun k => a (k + 21)) p3_size p3_stepCount p3_draftCount p3_place p3_fault wp3_stacked p3_tape p3_steps p3_draft wp3_stack) (some (.int r)) args s) (F0 m 91 ls [.int s0]) := by
  obtain ⟨hx, hb, hml, hown, hts, hr, hlocks, hK, hSt⟩ := id C0
  intro x2 x5 x6 x7 s0 v_size v_trial_rows v_trial_cols v_trial_high v_trial_wide v_trial_folds v_trial_wrong v_trial_more v_trial_rowOf v_trial_colOf v_trial_below v_trial_face v_trial_worn v_trial_last v_trial_bend v_trial_tall v_lines v_ways p1_rows p1_cols p1_high p1_wide p1_folds p1_wrong p1_more p1_rowOf p1_colOf p1_below p1_face p1_worn p1_last p3_stepCount p3_stacked p3_steps p3_stack H locs ls hf hP hD hS hl
  unfold fX3_tryInWind_91 at hf
  refine lv_istore (lv' := [(8, .int s0), (0, .ref (a 0)), (2, .int x2), (3, .ref (a 21)), (5, .int x5), (6, .int x6), (7, .int x7)]) hx hb dX3_tryInWind_91 hl (by decide) rfl (fun ls hl => ?_)
  refine lv_aload_n hx hb dX3_tryInWind_93 rfl (lv_at hl 1 rfl) ?_
  refine mm_get C0 hP iw_X3 0 rfl rfl 1 (by decide) fl_X3_12 rfl dX3_tryInWind_94 ?_
  refine lv_aload_n hx hb dX3_tryInWind_97 rfl (lv_at hl 1 rfl) ?_
  refine mm_get C0 hP iw_X3 0 rfl rfl 2 (by decide) fl_X3_18 rfl dX3_tryInWind_98 ?_
  refine lv_iload hx hb dX3_tryInWind_101 (lv_at hl 6 rfl) ?_
  obtain ⟨h_26, hf⟩ := mm_cks hf
  refine mm_iald C0 hP 10 rfl h_26 dX3_tryInWind_103 ?_
  refine lv_iload hx hb dX3_tryInWind_104 (lv_at hl 0 rfl) ?_
  refine lv_iload_n hx hb dX3_tryInWind_106 rfl (lv_at hl 2 rfl) ?_
  refine lv_aload_n hx hb dX3_tryInWind_107 rfl (lv_at hl 3 rfl) ?_
  refine mm_ct16 hf (fun r_27 w_28 w_29 w_30 w_31 w_32 w_33 w_34 w_35 w_36 w_37 w_38 w_39 w_40 w_41 w_42 hc_43 hf => ?_)
  refine mm_callW (q0 := 1) (ci := 5) (w2 := (wd_X3 cI cL cS cH a v_size v_trial_rows v_trial_cols w_28 w_29 w_30 w_31 w_32 w_33 w_34 w_35 w_36 w_37 w_38 w_39 w_40 v_lines v_ways ++ wd_X5 cI cL cS cH (fun k => a (k + 12)) p1_rows p1_cols p1_high p1_wide p1_folds p1_wrong p1_more p1_rowOf p1_colOf p1_below p1_face p1_worn p1_last p1_bend p1_tall ++ wd_X2 cI cL cS cH (fun k => a (k + 21)) p3_size p3_stepCount p3_draftCount p3_place p3_fault w_41 p3_tape p3_steps p3_draft w_42)) (rest := []) C0 lk_X3_53 (ctX5_bendAndTurn (a := (fun k => a ([1, 2, 3, 4, 5, 6, 7, 8, 9, 21, 22, 23, 24, 25].getD k 0))) (d := d - 1) (by omega) hc_43) (by omega) rfl hl.1 rfl (mm_cat rfl) dX3_tryInWind_108 hP hD hA hS rfl rfl [false, true, true, true, true, true, true, true, true, true, false, false, false, false, false, false, false, false, false, false, false, true, true, true, true, true] rfl rfl rfl rfl (fun H locs hP hD hS => ?_)
  refine W.eq (g2 := F0 m 111 ls [.int r_27]) rfl ?_
  refine lv_pop hx hb dX3_tryInWind_111 rfl ?_
  obtain ⟨y_44, ey_44⟩ : ∃ z : Int32, z = x7 + (1 : Int32) := ⟨_, rfl⟩
  have hf := mm_nms hf ey_44
  refine lv_iinc (v := y_44) (lv' := [(7, .int y_44), (8, .int s0), (0, .ref (a 0)), (2, .int x2), (3, .ref (a 21)), (5, .int x5), (6, .int x6)]) hx hb dX3_tryInWind_112 hl (k := 6) rfl (by rw [ey_44]; rfl) (by decide) rfl (fun ls hl => ?_)
  refine lv_goto (tgt := 15) hx hb dX3_tryInWind_115 (by decide) ?_
  exact hk_15 _ _ _ _ _ _ _ _ _ _ _ _ _ _ _ _ _ _ _ _ _ _ _ _ _ _ _ _ _ _ _ _ _ _ _ _ _ _ _ H locs ls hf hP hD hS (lv_sub hl [2, 3, 4, 5, 6, 0] rfl)

def fX3_tryInWind_15 (N : Nat)  : Nat → Int32 → Int32 → Int32 → Int32 → Int32 → Int32 → Int32 → Int32 → Int32 → Int32 → Int32 → Int32 → List Int32 → List Int32 → List Int32 → List Int32 → List Int32 → List Int32 → List Int32 → List Int32 → List Int32 → List Int32 → Int32 → Int32 → Int32 → Int32 → Int32 → Int32 → Int32 → List Int32 → List Int32 → List Int32 → List Int32 → List Int32 → List Int32 → Int32 → Int32 → List Int32 → List Int32 → Option (Int32 × Int32 × Int32 × Int32 × Int32 × Int32 × Int32 × Int32 × List Int32 × List Int32 × List Int32 × List Int32 × List Int32 × List Int32 × List Int32 × List Int32 × Int32 × List Int32)
  | 0 => fun _ _ _ _ _ _ _ _ _ _ _ _ _ _ _ _ _ _ _ _ _ _ _ _ _ _ _ _ _ _ _ _ _ _ _ _ _ _ _ => none
  | n + 1 => fun x2 x5 x6 x7 v_size v_trial_rows v_trial_cols v_trial_high v_trial_wide v_trial_folds v_trial_wrong v_trial_more v_trial_rowOf v_trial_colOf v_trial_below v_trial_face v_trial_worn v_trial_last v_trial_bend v_trial_tall v_lines v_ways p1_rows p1_cols p1_high p1_wide p1_folds p1_wrong p1_more p1_rowOf p1_colOf p1_below p1_face p1_worn p1_last p3_stepCount p3_stacked p3_steps p3_stack =>
    if v_size ≤ x7 then
    (some (x6, v_trial_rows, v_trial_cols, v_trial_high, v_trial_wide, v_trial_folds, v_trial_wrong, v_trial_more, v_trial_rowOf, v_trial_colOf, v_trial_below, v_trial_face, v_trial_worn, v_trial_last, v_trial_bend, v_trial_tall, p3_stacked, p3_stack))
    else (mm_ck (mm_inb x7 v_lines.length) (mm_ck (mm_inb x7 v_ways.length) (mm_bd1 (fX5_hasLine N (mm_ig v_lines x7) (mm_ig v_ways x7) v_trial_high v_trial_wide) (fun (r_18 : Bool) =>
    if r_18 = false then
    (some (x6, v_trial_rows, v_trial_cols, v_trial_high, v_trial_wide, v_trial_folds, v_trial_wrong, v_trial_more, v_trial_rowOf, v_trial_colOf, v_trial_below, v_trial_face, v_trial_worn, v_trial_last, v_trial_bend, v_trial_tall, p3_stacked, p3_stack))
    else (mm_nm (((x6 * (1103515245 : Int32)) + (12345 : Int32))) (fun (y_21 : Int32) =>
    mm_ck (mm_nz (100 : Int32)) (if x5 ≤ (mm_rem ((y_21.toUInt32 >>> ((8 : Int32).toUInt32 &&& Int32.toUInt32 31)).toInt32) (100 : Int32)) then
    (mm_ck (mm_inb x7 v_ways.length) (fX3_tryInWind_91 N (fX3_tryInWind_15 N n) x2 x5 y_21 x7 (mm_ig v_ways x7) v_size v_trial_rows v_trial_cols v_trial_high v_trial_wide v_trial_folds v_trial_wrong v_trial_more v_trial_rowOf v_trial_colOf v_trial_below v_trial_face v_trial_worn v_trial_last v_trial_bend v_trial_tall v_lines v_ways p1_rows p1_cols p1_high p1_wide p1_folds p1_wrong p1_more p1_rowOf p1_colOf p1_below p1_face p1_worn p1_last p3_stepCount p3_stacked p3_steps p3_stack))
    else (mm_ck (mm_inb x7 v_ways.length) (fX3_tryInWind_91 N (fX3_tryInWind_15 N n) x2 x5 y_21 x7 ((mm_ig v_ways x7) ^^^ (1 : Int32)) v_size v_trial_rows v_trial_cols v_trial_high v_trial_wide v_trial_folds v_trial_wrong v_trial_more v_trial_rowOf v_trial_colOf v_trial_below v_trial_face v_trial_worn v_trial_last v_trial_bend v_trial_tall v_lines v_ways p1_rows p1_cols p1_high p1_wide p1_folds p1_wrong p1_more p1_rowOf p1_colOf p1_below p1_face p1_worn p1_last p3_stepCount p3_stacked p3_steps p3_stack)))))))))

set_option maxHeartbeats 4000000 in
set_option maxRecDepth 100000 in
theorem tX3_tryInWind_15 {p : Program} {l : Launch} {e : Env} {s : State} {m : MethodId} {args : Array Value} {below : List Frame} {meth : Method} {c : Code} {D : va_G} {cI cL cS cH : ClassId} {A : Nat → Prop} {d : Nat} {a : Nat → Nat} (hd : 6 ≤ d) (C0 : mm_Cx p s m args meth c RX3 cX3_tryInWind 9 (some .int) D (mm_T cI cL cS cH) A) (hA : ∀ q, s.heap.size ≤ q → A q) {p1_bend : List Int32} {p1_tall : List Int32} {p3_size : Int32} {p3_draftCount : Int32} {p3_place : Int32} {p3_fault : Int32} {p3_tape : List Int32} {p3_draft : List Int32} {r : Int32} {w_trial_rows : Int32} {w_trial_cols : Int32} {w_trial_high : Int32} {w_trial_wide : Int32} {w_trial_folds : Int32} {w_trial_wrong : Int32} {w_trial_more : Int32} {w_trial_rowOf : List Int32} {w_trial_colOf : List Int32} {w_trial_below : List Int32} {w_trial_face : List Int32} {w_trial_worn : List Int32} {w_trial_last : List Int32} {w_trial_bend : List Int32} {w_trial_tall : List Int32} {wp3_stacked : Int32} {wp3_stack : List Int32} (N : Nat)  : ∀ (n : Nat), ∀ (x2 : Int32) (x5 : Int32) (x6 : Int32) (x7 : Int32) (v_size : Int32) (v_trial_rows : Int32) (v_trial_cols : Int32) (v_trial_high : Int32) (v_trial_wide : Int32) (v_trial_folds : Int32) (v_trial_wrong : Int32) (v_trial_more : Int32) (v_trial_rowOf : List Int32) (v_trial_colOf : List Int32) (v_trial_below : List Int32) (v_trial_face : List Int32) (v_trial_worn : List Int32) (v_trial_last : List Int32) (v_trial_bend : List Int32) (v_trial_tall : List Int32) (v_lines : List Int32) (v_ways : List Int32) (p1_rows : Int32) (p1_cols : Int32) (p1_high : Int32) (p1_wide : Int32) (p1_folds : Int32) (p1_wrong : Int32) (p1_more : Int32) (p1_rowOf : List Int32) (p1_colOf : List Int32) (p1_below : List Int32) (p1_face : List Int32) (p1_worn : List Int32) (p1_last : List Int32) (p3_stepCount : Int32) (p3_stacked : Int32) (p3_steps : List Int32) (p3_stack : List Int32) (H : Heap) (locs : List Loc) (ls : Array Slot), fX3_tryInWind_15 N n x2 x5 x6 x7 v_size v_trial_rows v_trial_cols v_trial_high v_trial_wide v_trial_folds v_trial_wrong v_trial_more v_trial_rowOf v_trial_colOf v_trial_below v_trial_face v_trial_worn v_trial_last v_trial_bend v_trial_tall v_lines v_ways p1_rows p1_cols p1_high p1_wide p1_folds p1_wrong p1_more p1_rowOf p1_colOf p1_below p1_face p1_worn p1_last p3_stepCount p3_stacked p3_steps p3_stack = some (r, w_trial_rows, w_trial_cols, w_trial_high, w_trial_wide, w_trial_folds, w_trial_wrong, w_trial_more, w_trial_rowOf, w_trial_colOf, w_trial_below, w_trial_face, w_trial_worn, w_trial_last, w_trial_bend, w_trial_tall, wp3_stacked, wp3_stack) → va_P D mm_cl (wd_X3 cI cL cS cH a v_size v_trial_rows v_trial_cols v_trial_high v_trial_wide v_trial_folds v_trial_wrong v_trial_more v_trial_rowOf v_trial_colOf v_trial_below v_trial_face v_trial_worn v_trial_last v_trial_bend v_trial_tall v_lines v_ways ++ wd_X5 cI cL cS cH (fun k => a (k + 12)) p1_rows p1_cols p1_high p1_wide p1_folds p1_wrong p1_more p1_rowOf p1_colOf p1_below p1_face p1_worn p1_last p1_bend p1_tall ++ wd_X2 cI cL cS cH (fun k => a (k + 21)) p3_size p3_stepCount p3_draftCount p3_place p3_fault p3_stacked p3_tape p3_steps p3_draft p3_stack) H → va_D A (wd_X3 cI cL cS cH a v_size v_trial_rows v_trial_cols v_trial_high v_trial_wide v_trial_folds v_trial_wrong v_trial_more v_trial_rowOf v_trial_colOf v_trial_below v_trial_face v_trial_worn v_trial_last v_trial_bend v_trial_tall v_lines v_ways ++ wd_X5 cI cL cS cH (fun k => a (k + 12)) p1_rows p1_cols p1_high p1_wide p1_folds p1_wrong p1_more p1_rowOf p1_colOf p1_below p1_face p1_worn p1_last p1_bend p1_tall ++ wd_X2 cI cL cS cH (fun k => a (k + 21)) p3_size p3_stepCount p3_draftCount p3_place p3_fault p3_stacked p3_tape p3_steps p3_draft p3_stack) → va_S A s.heap H locs → lv_has ls 9 [(0, .ref (a 0)), (2, .int x2), (3, .ref (a 21)), (5, .int x5), (6, .int x6), (7, .int x7)] → W p l e (mm_rr d) s m args below meth c H locs 0 0 (mm_Z below D A (wd_X3 cI cL cS cH a v_size w_trial_rows w_trial_cols w_trial_high w_trial_wide w_trial_folds w_trial_wrong w_trial_more w_trial_rowOf w_trial_colOf w_trial_below w_trial_face w_trial_worn w_trial_last w_trial_bend w_trial_tall v_lines v_ways ++ wd_X5 cI cL cS cH (fun k => a (k + 12)) p1_rows p1_cols p1_high p1_wide p1_folds p1_wrong p1_more p1_rowOf p1_colOf p1_below p1_face p1_worn p1_last p1_bend p1_tall ++ wd_X2 cI cL cS cH (fun k => a (k + 21)) p3_size p3_stepCount p3_draftCount p3_place p3_fault wp3_stacked p3_tape p3_steps p3_draft wp3_stack) (some (.int r)) args s) (F0 m 15 ls []) := by
  obtain ⟨hx, hb, hml, hown, hts, hr, hlocks, hK, hSt⟩ := id C0
  intro n
  induction n with
  | zero =>
    intro x2 x5 x6 x7 v_size v_trial_rows v_trial_cols v_trial_high v_trial_wide v_trial_folds v_trial_wrong v_trial_more v_trial_rowOf v_trial_colOf v_trial_below v_trial_face v_trial_worn v_trial_last v_trial_bend v_trial_tall v_lines v_ways p1_rows p1_cols p1_high p1_wide p1_folds p1_wrong p1_more p1_rowOf p1_colOf p1_below p1_face p1_worn p1_last p3_stepCount p3_stacked p3_steps p3_stack H locs ls hf
    cases (show none = some _ from hf)
  | succ n ih =>
    intro x2 x5 x6 x7 v_size v_trial_rows v_trial_cols v_trial_high v_trial_wide v_trial_folds v_trial_wrong v_trial_more v_trial_rowOf v_trial_colOf v_trial_below v_trial_face v_trial_worn v_trial_last v_trial_bend v_trial_tall v_lines v_ways p1_rows p1_cols p1_high p1_wide p1_folds p1_wrong p1_more p1_rowOf p1_colOf p1_below p1_face p1_worn p1_last p3_stepCount p3_stacked p3_steps p3_stack H locs ls hf hP hD hS hl
    unfold fX3_tryInWind_15 at hf
    refine lv_iload hx hb dX3_tryInWind_15 (lv_at hl 5 rfl) ?_
    refine lv_aload_n hx hb dX3_tryInWind_17 rfl (lv_at hl 0 rfl) ?_
    refine mm_get C0 hP iw_X3 0 rfl rfl 0 (by decide) fl_X3_25 rfl dX3_tryInWind_18 ?_
    refine lv_icmp_ge (tgt := 118) hx hb dX3_tryInWind_21 (by decide) (fun c_15 => ?_) (fun c_15 => ?_)
    · have hf := mm_ip hf c_15
      refine lv_iload hx hb dX3_tryInWind_118 (lv_at hl 4 rfl) ?_
      apply mm_sub18 hf
      exact mm_iret C0 hP hD hS dX3_tryInWind_120
    · have hf := mm_in hf c_15
      refine lv_aload_n hx hb dX3_tryInWind_24 rfl (lv_at hl 0 rfl) ?_
      refine mm_get C0 hP iw_X3 0 rfl rfl 1 (by decide) fl_X3_12 rfl dX3_tryInWind_25 ?_
      refine lv_aload_n hx hb dX3_tryInWind_28 rfl (lv_at hl 0 rfl) ?_
      refine mm_get C0 hP iw_X3 0 rfl rfl 2 (by decide) fl_X3_18 rfl dX3_tryInWind_29 ?_
      refine lv_iload hx hb dX3_tryInWind_32 (lv_at hl 5 rfl) ?_
      obtain ⟨h_16, hf⟩ := mm_cks hf
      refine mm_iald C0 hP 10 rfl h_16 dX3_tryInWind_34 ?_
      refine lv_aload_n hx hb dX3_tryInWind_35 rfl (lv_at hl 0 rfl) ?_
      refine mm_get C0 hP iw_X3 0 rfl rfl 3 (by decide) fl_X3_22 rfl dX3_tryInWind_36 ?_
      refine lv_iload hx hb dX3_tryInWind_39 (lv_at hl 5 rfl) ?_
      obtain ⟨h_17, hf⟩ := mm_cks hf
      refine mm_iald C0 hP 11 rfl h_17 dX3_tryInWind_41 ?_
      obtain ⟨r_18, hc_19, hf⟩ := mm_bd1s hf
      refine mm_callW (q0 := 1) (ci := 5) (w2 := (wd_X3 cI cL cS cH a v_size v_trial_rows v_trial_cols v_trial_high v_trial_wide v_trial_folds v_trial_wrong v_trial_more v_trial_rowOf v_trial_colOf v_trial_below v_trial_face v_trial_worn v_trial_last v_trial_bend v_trial_tall v_lines v_ways ++ wd_X5 cI cL cS cH (fun k => a (k + 12)) p1_rows p1_cols p1_high p1_wide p1_folds p1_wrong p1_more p1_rowOf p1_colOf p1_below p1_face p1_worn p1_last p1_bend p1_tall ++ wd_X2 cI cL cS cH (fun k => a (k + 21)) p3_size p3_stepCount p3_draftCount p3_place p3_fault p3_stacked p3_tape p3_steps p3_draft p3_stack)) (rest := []) C0 lk_X3_50 (ctX5_hasLine (a := (fun k => a (k + 1))) (d := d - 1) (by omega) hc_19) (by omega) rfl hl.1 rfl (mm_cat rfl) dX3_tryInWind_42 hP hD hA hS rfl rfl [false, true, true, true, true, true, true, true, true, true, false, false, false, false, false, false, false, false, false, false, false, false, false, false, false, false] rfl rfl rfl rfl (fun H locs hP hD hS => ?_)
      refine W.eq (g2 := F0 m 45 ls [.int (mm_b r_18)]) rfl ?_
      refine lv_if_eq (tgt := 118) hx hb dX3_tryInWind_45 (by decide) (fun c_20 => ?_) (fun c_20 => ?_)
      · have hf := mm_ip hf (mm_b0 c_20)
        refine lv_iload hx hb dX3_tryInWind_118 (lv_at hl 4 rfl) ?_
        apply mm_sub18 hf
        exact mm_iret C0 hP hD hS dX3_tryInWind_120
      · have hf := mm_in hf (mm_b1 c_20)
        refine lv_iload hx hb dX3_tryInWind_48 (lv_at hl 4 rfl) ?_
        refine lv_ldc hx hb hown (hts _ kc_X3_63) dX3_tryInWind_50 ?_
        refine lv_imul hx hb dX3_tryInWind_52 ?_
        refine lv_sipush (v := 12345) hx hb dX3_tryInWind_53 (by decide) ?_
        refine lv_iadd hx hb dX3_tryInWind_56 ?_
        refine lv_topi (fun y_21 ey_21 => ?_)
        have hf := mm_nms hf ey_21
        refine lv_istore (lv' := [(6, .int y_21), (0, .ref (a 0)), (2, .int x2), (3, .ref (a 21)), (5, .int x5), (7, .int x7)]) hx hb dX3_tryInWind_57 hl (by decide) rfl (fun ls hl => ?_)
        refine lv_iload hx hb dX3_tryInWind_59 (lv_at hl 0 rfl) ?_
        refine lv_bipush (v := 8) hx hb dX3_tryInWind_61 (by decide) ?_
        refine lv_iushr hx hb dX3_tryInWind_63 rfl ?_
        refine lv_bipush (v := 100) hx hb dX3_tryInWind_64 (by decide) ?_
        obtain ⟨h_22, hf⟩ := mm_cks hf
        refine lv_irem hx hb dX3_tryInWind_66 (mm_nzs h_22) ?_
        refine lv_iload hx hb dX3_tryInWind_67 (lv_at hl 4 rfl) ?_
        refine lv_icmp_ge (tgt := 84) hx hb dX3_tryInWind_69 (by decide) (fun c_23 => ?_) (fun c_23 => ?_)
        · have hf := mm_ip hf c_23
          refine lv_aload_n hx hb dX3_tryInWind_84 rfl (lv_at hl 1 rfl) ?_
          refine mm_get C0 hP iw_X3 0 rfl rfl 3 (by decide) fl_X3_22 rfl dX3_tryInWind_85 ?_
          refine lv_iload hx hb dX3_tryInWind_88 (lv_at hl 5 rfl) ?_
          obtain ⟨h_24, hf⟩ := mm_cks hf
          refine mm_iald C0 hP 11 rfl h_24 dX3_tryInWind_90 ?_
          exact tX3_tryInWind_91 hd C0 hA N ih _ _ _ _ _ _ _ _ _ _ _ _ _ _ _ _ _ _ _ _ _ _ _ _ _ _ _ _ _ _ _ _ _ _ _ _ _ _ _ _ H locs ls hf hP hD hS (lv_sub hl [1, 2, 3, 4, 0, 5] rfl)
        · have hf := mm_in hf c_23
          refine lv_aload_n hx hb dX3_tryInWind_72 rfl (lv_at hl 1 rfl) ?_
          refine mm_get C0 hP iw_X3 0 rfl rfl 3 (by decide) fl_X3_22 rfl dX3_tryInWind_73 ?_
          refine lv_iload hx hb dX3_tryInWind_76 (lv_at hl 5 rfl) ?_
          obtain ⟨h_25, hf⟩ := mm_cks hf
          refine mm_iald C0 hP 11 rfl h_25 dX3_tryInWind_78 ?_
          refine lv_iconst (v := 1) hx hb dX3_tryInWind_79 (by decide) ?_
          refine lv_ixor hx hb dX3_tryInWind_80 ?_
          refine lv_goto (tgt := 91) hx hb dX3_tryInWind_81 (by decide) ?_
          exact tX3_tryInWind_91 hd C0 hA N ih _ _ _ _ _ _ _ _ _ _ _ _ _ _ _ _ _ _ _ _ _ _ _ _ _ _ _ _ _ _ _ _ _ _ _ _ _ _ _ _ H locs ls hf hP hD hS (lv_sub hl [1, 2, 3, 4, 0, 5] rfl)

def fX3_tryInWind (N : Nat) (x2 : Int32) (x4 : Int32) (x5 : Int32) (v_size : Int32) (v_trial_rows : Int32) (v_trial_cols : Int32) (v_trial_high : Int32) (v_trial_wide : Int32) (v_trial_folds : Int32) (v_trial_wrong : Int32) (v_trial_more : Int32) (v_trial_rowOf : List Int32) (v_trial_colOf : List Int32) (v_trial_below : List Int32) (v_trial_face : List Int32) (v_trial_worn : List Int32) (v_trial_last : List Int32) (v_trial_bend : List Int32) (v_trial_tall : List Int32) (v_lines : List Int32) (v_ways : List Int32) (p1_rows : Int32) (p1_cols : Int32) (p1_high : Int32) (p1_wide : Int32) (p1_folds : Int32) (p1_wrong : Int32) (p1_more : Int32) (p1_rowOf : List Int32) (p1_colOf : List Int32) (p1_below : List Int32) (p1_face : List Int32) (p1_worn : List Int32) (p1_last : List Int32) (p3_stepCount : Int32) (p3_stacked : Int32) (p3_steps : List Int32) (p3_stack : List Int32) : Option (Int32 × Int32 × Int32 × Int32 × Int32 × Int32 × Int32 × Int32 × List Int32 × List Int32 × List Int32 × List Int32 × List Int32 × List Int32 × List Int32 × List Int32 × Int32 × List Int32) :=
    mm_bd13 (fX5_beginTrial N v_trial_rows v_trial_cols v_trial_high v_trial_wide v_trial_folds v_trial_wrong v_trial_more v_trial_rowOf v_trial_colOf v_trial_below v_trial_face v_trial_worn v_trial_last p1_rows p1_cols p1_high p1_wide p1_folds p1_wrong p1_more p1_rowOf p1_colOf p1_below p1_face p1_worn p1_last) (fun (w_1 : Int32) (w_2 : Int32) (w_3 : Int32) (w_4 : Int32) (w_5 : Int32) (w_6 : Int32) (w_7 : Int32) (w_8 : List Int32) (w_9 : List Int32) (w_10 : List Int32) (w_11 : List Int32) (w_12 : List Int32) (w_13 : List Int32) =>
    fX3_tryInWind_15 N N x2 x5 x4 (0 : Int32) v_size w_1 w_2 w_3 w_4 w_5 w_6 w_7 w_8 w_9 w_10 w_11 w_12 w_13 v_trial_bend v_trial_tall v_lines v_ways p1_rows p1_cols p1_high p1_wide p1_folds p1_wrong p1_more p1_rowOf p1_colOf p1_below p1_face p1_worn p1_last p3_stepCount p3_stacked p3_steps p3_stack)

set_option maxHeartbeats 4000000 in
set_option maxRecDepth 100000 in
theorem ctX3_tryInWind {l : Launch} {D : va_G} {cI cL cS cH : ClassId} {a : Nat → Nat} {x2 : Int32} {x4 : Int32} {x5 : Int32} {v_size : Int32} {v_trial_rows : Int32} {v_trial_cols : Int32} {v_trial_high : Int32} {v_trial_wide : Int32} {v_trial_folds : Int32} {v_trial_wrong : Int32} {v_trial_more : Int32} {v_trial_rowOf : List Int32} {v_trial_colOf : List Int32} {v_trial_below : List Int32} {v_trial_face : List Int32} {v_trial_worn : List Int32} {v_trial_last : List Int32} {v_trial_bend : List Int32} {v_trial_tall : List Int32} {v_lines : List Int32} {v_ways : List Int32} {p1_rows : Int32} {p1_cols : Int32} {p1_high : Int32} {p1_wide : Int32} {p1_folds : Int32} {p1_wrong : Int32} {p1_more : Int32} {p1_rowOf : List Int32} {p1_colOf : List Int32} {p1_below : List Int32} {p1_face : List Int32} {p1_worn : List Int32} {p1_last : List Int32} {p1_bend : List Int32} {p1_tall : List Int32} {p3_size : Int32} {p3_stepCount : Int32} {p3_draftCount : Int32} {p3_place : Int32} {p3_fault : Int32} {p3_stacked : Int32} {p3_tape : List Int32} {p3_steps : List Int32} {p3_draft : List Int32} {p3_stack : List Int32} {r : Int32} {w_trial_rows : Int32} {w_trial_cols : Int32} {w_trial_high : Int32} {w_trial_wide : Int32} {w_trial_folds : Int32} {w_trial_wrong : Int32} {w_trial_more : Int32} {w_trial_rowOf : List Int32} {w_trial_colOf : List Int32} {w_trial_below : List Int32} {w_trial_face : List Int32} {w_trial_worn : List Int32} {w_trial_last : List Int32} {w_trial_bend : List Int32} {w_trial_tall : List Int32} {wp3_stacked : Int32} {wp3_stack : List Int32} {N d : Nat} (hd : 6 ≤ d) (hf : fX3_tryInWind N x2 x4 x5 v_size v_trial_rows v_trial_cols v_trial_high v_trial_wide v_trial_folds v_trial_wrong v_trial_more v_trial_rowOf v_trial_colOf v_trial_below v_trial_face v_trial_worn v_trial_last v_trial_bend v_trial_tall v_lines v_ways p1_rows p1_cols p1_high p1_wide p1_folds p1_wrong p1_more p1_rowOf p1_colOf p1_below p1_face p1_worn p1_last p3_stepCount p3_stacked p3_steps p3_stack = some (r, w_trial_rows, w_trial_cols, w_trial_high, w_trial_wide, w_trial_folds, w_trial_wrong, w_trial_more, w_trial_rowOf, w_trial_colOf, w_trial_below, w_trial_face, w_trial_worn, w_trial_last, w_trial_bend, w_trial_tall, wp3_stacked, wp3_stack)) : mm_Ct l yX3_tryInWind cX3_tryInWind 9 (some .int) d D (mm_T cI cL cS cH) [.ref (a 0), .ref (a 12), .int x2, .ref (a 21), .int x4, .int x5] (wd_X3 cI cL cS cH a v_size v_trial_rows v_trial_cols v_trial_high v_trial_wide v_trial_folds v_trial_wrong v_trial_more v_trial_rowOf v_trial_colOf v_trial_below v_trial_face v_trial_worn v_trial_last v_trial_bend v_trial_tall v_lines v_ways ++ wd_X5 cI cL cS cH (fun k => a (k + 12)) p1_rows p1_cols p1_high p1_wide p1_folds p1_wrong p1_more p1_rowOf p1_colOf p1_below p1_face p1_worn p1_last p1_bend p1_tall ++ wd_X2 cI cL cS cH (fun k => a (k + 21)) p3_size p3_stepCount p3_draftCount p3_place p3_fault p3_stacked p3_tape p3_steps p3_draft p3_stack) (wd_X3 cI cL cS cH a v_size w_trial_rows w_trial_cols w_trial_high w_trial_wide w_trial_folds w_trial_wrong w_trial_more w_trial_rowOf w_trial_colOf w_trial_below w_trial_face w_trial_worn w_trial_last w_trial_bend w_trial_tall v_lines v_ways ++ wd_X5 cI cL cS cH (fun k => a (k + 12)) p1_rows p1_cols p1_high p1_wide p1_folds p1_wrong p1_more p1_rowOf p1_colOf p1_below p1_face p1_worn p1_last p1_bend p1_tall ++ wd_X2 cI cL cS cH (fun k => a (k + 21)) p3_size p3_stepCount p3_draftCount p3_place p3_fault wp3_stacked p3_tape p3_steps p3_draft wp3_stack) (some (.int r)) := by
  refine mm_of (by decide) (Nat.le_of_ble_eq_true rfl) ?_
  intro p e s m args below meth c A H locs ls C0 hP hD hA hS hl
  have C0 : mm_Cx p s m args meth c RX3 cX3_tryInWind 9 (some .int) D (mm_T cI cL cS cH) A := C0
  obtain ⟨hx, hb, hml, hown, hts, hr, hlocks, hK, hSt⟩ := id C0
  have hl : lv_has ls 9 [(0, .ref (a 0)), (1, .ref (a 12)), (2, .int x2), (3, .ref (a 21)), (4, .int x4), (5, .int x5)] := hl
  unfold fX3_tryInWind at hf
  refine lv_iload hx hb dX3_tryInWind_0 (lv_at hl 4 rfl) ?_
  refine lv_istore (lv' := [(6, .int x4), (0, .ref (a 0)), (1, .ref (a 12)), (2, .int x2), (3, .ref (a 21)), (4, .int x4), (5, .int x5)]) hx hb dX3_tryInWind_2 hl (by decide) rfl (fun ls hl => ?_)
  refine lv_aload_n hx hb dX3_tryInWind_4 rfl (lv_at hl 1 rfl) ?_
  refine mm_get C0 hP iw_X3 0 rfl rfl 1 (by decide) fl_X3_12 rfl dX3_tryInWind_5 ?_
  refine lv_aload_n hx hb dX3_tryInWind_8 rfl (lv_at hl 2 rfl) ?_
  refine mm_ct13 hf (fun w_1 w_2 w_3 w_4 w_5 w_6 w_7 w_8 w_9 w_10 w_11 w_12 w_13 hc_14 hf => ?_)
  refine mm_callW (q0 := 1) (ci := 5) (w2 := (wd_X3 cI cL cS cH a v_size w_1 w_2 w_3 w_4 w_5 w_6 w_7 w_8 w_9 w_10 w_11 w_12 w_13 v_trial_bend v_trial_tall v_lines v_ways ++ wd_X5 cI cL cS cH (fun k => a (k + 12)) p1_rows p1_cols p1_high p1_wide p1_folds p1_wrong p1_more p1_rowOf p1_colOf p1_below p1_face p1_worn p1_last p1_bend p1_tall ++ wd_X2 cI cL cS cH (fun k => a (k + 21)) p3_size p3_stepCount p3_draftCount p3_place p3_fault p3_stacked p3_tape p3_steps p3_draft p3_stack)) (rest := []) C0 lk_X3_46 (ctX5_beginTrial (a := (fun k => a ([1, 2, 3, 4, 5, 6, 7, 8, 9, 12, 13, 14, 15, 16, 17, 18, 19, 20].getD k 0))) (d := d - 1) (by omega) hc_14) (by omega) rfl hl.1 rfl (mm_cat rfl) dX3_tryInWind_9 hP hD hA hS rfl rfl [false, true, true, true, true, true, true, true, true, true, false, false, true, true, true, true, true, true, true, true, true, false, false, false, false, false] rfl rfl rfl rfl (fun H locs hP hD hS => ?_)
  refine W.eq (g2 := F0 m 12 ls []) rfl ?_
  refine lv_iconst (v := 0) hx hb dX3_tryInWind_12 (by decide) ?_
  refine lv_istore (lv' := [(7, .int (0 : Int32)), (6, .int x4), (0, .ref (a 0)), (1, .ref (a 12)), (2, .int x2), (3, .ref (a 21)), (4, .int x4), (5, .int x5)]) hx hb dX3_tryInWind_13 hl (by decide) rfl (fun ls hl => ?_)
  exact tX3_tryInWind_15 hd C0 hA N  N _ _ _ _ _ _ _ _ _ _ _ _ _ _ _ _ _ _ _ _ _ _ _ _ _ _ _ _ _ _ _ _ _ _ _ _ _ _ _ H locs ls hf hP hD hS (lv_sub hl [2, 4, 5, 7, 1, 0] rfl)

theorem dX4_begin_0 : decode cX4_begin 0 = .ok (.aload_n 0, 1) := by decide +kernel
theorem dX4_begin_1 : decode cX4_begin 1 = .ok (.iload_n 2, 1) := by decide +kernel
theorem dX4_begin_2 : decode cX4_begin 2 = .ok (.putfield 37, 3) := by decide +kernel
theorem dX4_begin_5 : decode cX4_begin 5 = .ok (.aload_n 0, 1) := by decide +kernel
theorem dX4_begin_6 : decode cX4_begin 6 = .ok (.iconst 0, 1) := by decide +kernel
theorem dX4_begin_7 : decode cX4_begin 7 = .ok (.putfield 40, 3) := by decide +kernel
theorem dX4_begin_10 : decode cX4_begin 10 = .ok (.aload_n 0, 1) := by decide +kernel
theorem dX4_begin_11 : decode cX4_begin 11 = .ok (.getfield 11, 3) := by decide +kernel
theorem dX4_begin_14 : decode cX4_begin 14 = .ok (.iconst 0, 1) := by decide +kernel
theorem dX4_begin_15 : decode cX4_begin 15 = .ok (.aaload, 1) := by decide +kernel
theorem dX4_begin_16 : decode cX4_begin 16 = .ok (.aload_n 1, 1) := by decide +kernel
theorem dX4_begin_17 : decode cX4_begin 17 = .ok (.invokevirtual 44, 3) := by decide +kernel
theorem dX4_begin_20 : decode cX4_begin 20 = .ok (.return_, 1) := by decide +kernel
def fX4_begin (N : Nat) (x2 : Int32) (v_found : Bool) (v_wanted : Int32) (v_levels0_rows : Int32) (v_levels0_cols : Int32) (v_levels0_high : Int32) (v_levels0_wide : Int32) (v_levels0_folds : Int32) (v_levels0_wrong : Int32) (v_levels0_more : Int32) (v_levels0_rowOf : List Int32) (v_levels0_colOf : List Int32) (v_levels0_below : List Int32) (v_levels0_face : List Int32) (v_levels0_worn : List Int32) (v_levels0_last : List Int32) (p1_rows : Int32) (p1_cols : Int32) (p1_high : Int32) (p1_wide : Int32) (p1_folds : Int32) (p1_wrong : Int32) (p1_more : Int32) (p1_rowOf : List Int32) (p1_colOf : List Int32) (p1_below : List Int32) (p1_face : List Int32) (p1_worn : List Int32) (p1_last : List Int32) : Option (Bool × Int32 × Int32 × Int32 × Int32 × Int32 × Int32 × Int32 × Int32 × List Int32 × List Int32 × List Int32 × List Int32 × List Int32 × List Int32) :=
    mm_bd13 (fX5_beginTrial N v_levels0_rows v_levels0_cols v_levels0_high v_levels0_wide v_levels0_folds v_levels0_wrong v_levels0_more v_levels0_rowOf v_levels0_colOf v_levels0_below v_levels0_face v_levels0_worn v_levels0_last p1_rows p1_cols p1_high p1_wide p1_folds p1_wrong p1_more p1_rowOf p1_colOf p1_below p1_face p1_worn p1_last) (fun (w_1 : Int32) (w_2 : Int32) (w_3 : Int32) (w_4 : Int32) (w_5 : Int32) (w_6 : Int32) (w_7 : Int32) (w_8 : List Int32) (w_9 : List Int32) (w_10 : List Int32) (w_11 : List Int32) (w_12 : List Int32) (w_13 : List Int32) =>
    some (false, x2, w_1, w_2, w_3, w_4, w_5, w_6, w_7, w_8, w_9, w_10, w_11, w_12, w_13))

set_option maxHeartbeats 4000000 in
set_option maxRecDepth 100000 in
theorem ctX4_begin {l : Launch} {D : va_G} {cI cL cS cH : ClassId} {a : Nat → Nat} {x2 : Int32} {v_found : Bool} {v_wrong : Int32} {v_more : Int32} {v_folds : Int32} {v_wanted : Int32} {v_levels0_rows : Int32} {v_levels0_cols : Int32} {v_levels0_high : Int32} {v_levels0_wide : Int32} {v_levels0_folds : Int32} {v_levels0_wrong : Int32} {v_levels0_more : Int32} {v_levels0_rowOf : List Int32} {v_levels0_colOf : List Int32} {v_levels0_below : List Int32} {v_levels0_face : List Int32} {v_levels0_worn : List Int32} {v_levels0_last : List Int32} {v_levels0_bend : List Int32} {v_levels0_tall : List Int32} {v_levels1_rows : Int32} {v_levels1_cols : Int32} {v_levels1_high : Int32} {v_levels1_wide : Int32} {v_levels1_folds : Int32} {v_levels1_wrong : Int32} {v_levels1_more : Int32} {v_levels1_rowOf : List Int32} {v_levels1_colOf : List Int32} {v_levels1_below : List Int32} {v_levels1_face : List Int32} {v_levels1_worn : List Int32} {v_levels1_last : List Int32} {v_levels1_bend : List Int32} {v_levels1_tall : List Int32} {v_levels2_rows : Int32} {v_levels2_cols : Int32} {v_levels2_high : Int32} {v_levels2_wide : Int32} {v_levels2_folds : Int32} {v_levels2_wrong : Int32} {v_levels2_more : Int32} {v_levels2_rowOf : List Int32} {v_levels2_colOf : List Int32} {v_levels2_below : List Int32} {v_levels2_face : List Int32} {v_levels2_worn : List Int32} {v_levels2_last : List Int32} {v_levels2_bend : List Int32} {v_levels2_tall : List Int32} {v_levels3_rows : Int32} {v_levels3_cols : Int32} {v_levels3_high : Int32} {v_levels3_wide : Int32} {v_levels3_folds : Int32} {v_levels3_wrong : Int32} {v_levels3_more : Int32} {v_levels3_rowOf : List Int32} {v_levels3_colOf : List Int32} {v_levels3_below : List Int32} {v_levels3_face : List Int32} {v_levels3_worn : List Int32} {v_levels3_last : List Int32} {v_levels3_bend : List Int32} {v_levels3_tall : List Int32} {v_path : List Int32} {v_best : List Int32} {p1_rows : Int32} {p1_cols : Int32} {p1_high : Int32} {p1_wide : Int32} {p1_folds : Int32} {p1_wrong : Int32} {p1_more : Int32} {p1_rowOf : List Int32} {p1_colOf : List Int32} {p1_below : List Int32} {p1_face : List Int32} {p1_worn : List Int32} {p1_last : List Int32} {p1_bend : List Int32} {p1_tall : List Int32} {w_found : Bool} {w_wanted : Int32} {w_levels0_rows : Int32} {w_levels0_cols : Int32} {w_levels0_high : Int32} {w_levels0_wide : Int32} {w_levels0_folds : Int32} {w_levels0_wrong : Int32} {w_levels0_more : Int32} {w_levels0_rowOf : List Int32} {w_levels0_colOf : List Int32} {w_levels0_below : List Int32} {w_levels0_face : List Int32} {w_levels0_worn : List Int32} {w_levels0_last : List Int32} {N d : Nat} (hd : 3 ≤ d) (hf : fX4_begin N x2 v_found v_wanted v_levels0_rows v_levels0_cols v_levels0_high v_levels0_wide v_levels0_folds v_levels0_wrong v_levels0_more v_levels0_rowOf v_levels0_colOf v_levels0_below v_levels0_face v_levels0_worn v_levels0_last p1_rows p1_cols p1_high p1_wide p1_folds p1_wrong p1_more p1_rowOf p1_colOf p1_below p1_face p1_worn p1_last = some (w_found, w_wanted, w_levels0_rows, w_levels0_cols, w_levels0_high, w_levels0_wide, w_levels0_folds, w_levels0_wrong, w_levels0_more, w_levels0_rowOf, w_levels0_colOf, w_levels0_below, w_levels0_face, w_levels0_worn, w_levels0_last)) : mm_Ct l yX4_begin cX4_begin 3 none d D (mm_T cI cL cS cH) [.ref (a 0), .ref (a 40), .int x2] (wd_X4 cI cL cS cH a v_found v_wrong v_more v_folds v_wanted v_levels0_rows v_levels0_cols v_levels0_high v_levels0_wide v_levels0_folds v_levels0_wrong v_levels0_more v_levels0_rowOf v_levels0_colOf v_levels0_below v_levels0_face v_levels0_worn v_levels0_last v_levels0_bend v_levels0_tall v_levels1_rows v_levels1_cols v_levels1_high v_levels1_wide v_levels1_folds v_levels1_wrong v_levels1_more v_levels1_rowOf v_levels1_colOf v_levels1_below v_levels1_face v_levels1_worn v_levels1_last v_levels1_bend v_levels1_tall v_levels2_rows v_levels2_cols v_levels2_high v_levels2_wide v_levels2_folds v_levels2_wrong v_levels2_more v_levels2_rowOf v_levels2_colOf v_levels2_below v_levels2_face v_levels2_worn v_levels2_last v_levels2_bend v_levels2_tall v_levels3_rows v_levels3_cols v_levels3_high v_levels3_wide v_levels3_folds v_levels3_wrong v_levels3_more v_levels3_rowOf v_levels3_colOf v_levels3_below v_levels3_face v_levels3_worn v_levels3_last v_levels3_bend v_levels3_tall v_path v_best ++ wd_X5 cI cL cS cH (fun k => a (k + 40)) p1_rows p1_cols p1_high p1_wide p1_folds p1_wrong p1_more p1_rowOf p1_colOf p1_below p1_face p1_worn p1_last p1_bend p1_tall) (wd_X4 cI cL cS cH a w_found v_wrong v_more v_folds w_wanted w_levels0_rows w_levels0_cols w_levels0_high w_levels0_wide w_levels0_folds w_levels0_wrong w_levels0_more w_levels0_rowOf w_levels0_colOf w_levels0_below w_levels0_face w_levels0_worn w_levels0_last v_levels0_bend v_levels0_tall v_levels1_rows v_levels1_cols v_levels1_high v_levels1_wide v_levels1_folds v_levels1_wrong v_levels1_more v_levels1_rowOf v_levels1_colOf v_levels1_below v_levels1_face v_levels1_worn v_levels1_last v_levels1_bend v_levels1_tall v_levels2_rows v_levels2_cols v_levels2_high v_levels2_wide v_levels2_folds v_levels2_wrong v_levels2_more v_levels2_rowOf v_levels2_colOf v_levels2_below v_levels2_face v_levels2_worn v_levels2_last v_levels2_bend v_levels2_tall v_levels3_rows v_levels3_cols v_levels3_high v_levels3_wide v_levels3_folds v_levels3_wrong v_levels3_more v_levels3_rowOf v_levels3_colOf v_levels3_below v_levels3_face v_levels3_worn v_levels3_last v_levels3_bend v_levels3_tall v_path v_best ++ wd_X5 cI cL cS cH (fun k => a (k + 40)) p1_rows p1_cols p1_high p1_wide p1_folds p1_wrong p1_more p1_rowOf p1_colOf p1_below p1_face p1_worn p1_last p1_bend p1_tall) none := by
  refine mm_of (by decide) (Nat.le_of_ble_eq_true rfl) ?_
  intro p e s m args below meth c A H locs ls C0 hP hD hA hS hl
  have C0 : mm_Cx p s m args meth c RX4 cX4_begin 3 none D (mm_T cI cL cS cH) A := C0
  obtain ⟨hx, hb, hml, hown, hts, hr, hlocks, hK, hSt⟩ := id C0
  have hl : lv_has ls 3 [(0, .ref (a 0)), (1, .ref (a 40)), (2, .int x2)] := hl
  unfold fX4_begin at hf
  refine lv_aload_n hx hb dX4_begin_0 rfl (lv_at hl 0 rfl) ?_
  refine lv_iload_n hx hb dX4_begin_1 rfl (lv_at hl 2 rfl) ?_
  refine mm_put C0 hP hD hS iw_X4 tyX4 tyX4_ok nmX4 0 rfl rfl 7 (by decide) fl_X4_37 rfl rfl rfl (Nat.le_of_ble_eq_true rfl) dX4_begin_2 (w2 := (wd_X4 cI cL cS cH a v_found v_wrong v_more v_folds x2 v_levels0_rows v_levels0_cols v_levels0_high v_levels0_wide v_levels0_folds v_levels0_wrong v_levels0_more v_levels0_rowOf v_levels0_colOf v_levels0_below v_levels0_face v_levels0_worn v_levels0_last v_levels0_bend v_levels0_tall v_levels1_rows v_levels1_cols v_levels1_high v_levels1_wide v_levels1_folds v_levels1_wrong v_levels1_more v_levels1_rowOf v_levels1_colOf v_levels1_below v_levels1_face v_levels1_worn v_levels1_last v_levels1_bend v_levels1_tall v_levels2_rows v_levels2_cols v_levels2_high v_levels2_wide v_levels2_folds v_levels2_wrong v_levels2_more v_levels2_rowOf v_levels2_colOf v_levels2_below v_levels2_face v_levels2_worn v_levels2_last v_levels2_bend v_levels2_tall v_levels3_rows v_levels3_cols v_levels3_high v_levels3_wide v_levels3_folds v_levels3_wrong v_levels3_more v_levels3_rowOf v_levels3_colOf v_levels3_below v_levels3_face v_levels3_worn v_levels3_last v_levels3_bend v_levels3_tall v_path v_best ++ wd_X5 cI cL cS cH (fun k => a (k + 40)) p1_rows p1_cols p1_high p1_wide p1_folds p1_wrong p1_more p1_rowOf p1_colOf p1_below p1_face p1_worn p1_last p1_bend p1_tall)) rfl (fun H locs hP hD hS => ?_)
  refine lv_aload_n hx hb dX4_begin_5 rfl (lv_at hl 0 rfl) ?_
  refine lv_iconst (v := 0) hx hb dX4_begin_6 (by decide) ?_
  refine mm_put C0 hP hD hS iw_X4 tyX4 tyX4_ok nmX4 0 rfl rfl 0 (by decide) fl_X4_40 rfl (v := .int (mm_b false)) mm_bn mm_bf (Nat.le_of_ble_eq_true rfl) dX4_begin_7 (w2 := (wd_X4 cI cL cS cH a false v_wrong v_more v_folds x2 v_levels0_rows v_levels0_cols v_levels0_high v_levels0_wide v_levels0_folds v_levels0_wrong v_levels0_more v_levels0_rowOf v_levels0_colOf v_levels0_below v_levels0_face v_levels0_worn v_levels0_last v_levels0_bend v_levels0_tall v_levels1_rows v_levels1_cols v_levels1_high v_levels1_wide v_levels1_folds v_levels1_wrong v_levels1_more v_levels1_rowOf v_levels1_colOf v_levels1_below v_levels1_face v_levels1_worn v_levels1_last v_levels1_bend v_levels1_tall v_levels2_rows v_levels2_cols v_levels2_high v_levels2_wide v_levels2_folds v_levels2_wrong v_levels2_more v_levels2_rowOf v_levels2_colOf v_levels2_below v_levels2_face v_levels2_worn v_levels2_last v_levels2_bend v_levels2_tall v_levels3_rows v_levels3_cols v_levels3_high v_levels3_wide v_levels3_folds v_levels3_wrong v_levels3_more v_levels3_rowOf v_levels3_colOf v_levels3_below v_levels3_face v_levels3_worn v_levels3_last v_levels3_bend v_levels3_tall v_path v_best ++ wd_X5 cI cL cS cH (fun k => a (k + 40)) p1_rows p1_cols p1_high p1_wide p1_folds p1_wrong p1_more p1_rowOf p1_colOf p1_below p1_face p1_worn p1_last p1_bend p1_tall)) rfl (fun H locs hP hD hS => ?_)
  refine lv_aload_n hx hb dX4_begin_10 rfl (lv_at hl 0 rfl) ?_
  refine mm_get C0 hP iw_X4 0 rfl rfl 4 (by decide) fl_X4_11 rfl dX4_begin_11 ?_
  refine lv_iconst (v := 0) hx hb dX4_begin_14 (by decide) ?_
  refine mm_aald 2 rfl C0 hP 1 rfl (b := a 2) rfl rfl dX4_begin_15 ?_
  refine lv_aload_n hx hb dX4_begin_16 rfl (lv_at hl 1 rfl) ?_
  refine mm_ct13 hf (fun w_1 w_2 w_3 w_4 w_5 w_6 w_7 w_8 w_9 w_10 w_11 w_12 w_13 hc_14 hf => ?_)
  refine mm_callW (q0 := 2) (ci := 5) (w2 := (wd_X4 cI cL cS cH a false v_wrong v_more v_folds x2 w_1 w_2 w_3 w_4 w_5 w_6 w_7 w_8 w_9 w_10 w_11 w_12 w_13 v_levels0_bend v_levels0_tall v_levels1_rows v_levels1_cols v_levels1_high v_levels1_wide v_levels1_folds v_levels1_wrong v_levels1_more v_levels1_rowOf v_levels1_colOf v_levels1_below v_levels1_face v_levels1_worn v_levels1_last v_levels1_bend v_levels1_tall v_levels2_rows v_levels2_cols v_levels2_high v_levels2_wide v_levels2_folds v_levels2_wrong v_levels2_more v_levels2_rowOf v_levels2_colOf v_levels2_below v_levels2_face v_levels2_worn v_levels2_last v_levels2_bend v_levels2_tall v_levels3_rows v_levels3_cols v_levels3_high v_levels3_wide v_levels3_folds v_levels3_wrong v_levels3_more v_levels3_rowOf v_levels3_colOf v_levels3_below v_levels3_face v_levels3_worn v_levels3_last v_levels3_bend v_levels3_tall v_path v_best ++ wd_X5 cI cL cS cH (fun k => a (k + 40)) p1_rows p1_cols p1_high p1_wide p1_folds p1_wrong p1_more p1_rowOf p1_colOf p1_below p1_face p1_worn p1_last p1_bend p1_tall)) (rest := []) C0 lk_X4_44 (ctX5_beginTrial (a := (fun k => a ([2, 3, 4, 5, 6, 7, 8, 9, 10, 40, 41, 42, 43, 44, 45, 46, 47, 48].getD k 0))) (d := d - 1) (by omega) hc_14) (by omega) rfl hl.1 rfl (mm_cat rfl) dX4_begin_17 hP hD hA hS rfl rfl [false, false, true, true, true, true, true, true, true, true, true, false, false, false, false, false, false, false, false, false, false, false, false, false, false, false, false, false, false, false, false, false, false, false, false, false, false, false, false, false, true, true, true, true, true, true, true, true, true] rfl rfl rfl rfl (fun H locs hP hD hS => ?_)
  refine W.eq (g2 := F0 m 20 ls []) rfl ?_
  apply mm_sub15 hf
  exact mm_vret C0 hP hD hS dX4_begin_20

theorem dX4_halvings_0 : decode cX4_halvings 0 = .ok (.iconst 0, 1) := by decide +kernel
theorem dX4_halvings_1 : decode cX4_halvings 1 = .ok (.istore_n 1, 1) := by decide +kernel
theorem dX4_halvings_2 : decode cX4_halvings 2 = .ok (.iconst 1, 1) := by decide +kernel
theorem dX4_halvings_3 : decode cX4_halvings 3 = .ok (.istore_n 2, 1) := by decide +kernel
theorem dX4_halvings_4 : decode cX4_halvings 4 = .ok (.iload_n 2, 1) := by decide +kernel
theorem dX4_halvings_5 : decode cX4_halvings 5 = .ok (.iload_n 0, 1) := by decide +kernel
theorem dX4_halvings_6 : decode cX4_halvings 6 = .ok (.if_icmp .ge 13, 3) := by decide +kernel
theorem dX4_halvings_9 : decode cX4_halvings 9 = .ok (.iinc 1 1, 3) := by decide +kernel
theorem dX4_halvings_12 : decode cX4_halvings 12 = .ok (.iload_n 2, 1) := by decide +kernel
theorem dX4_halvings_13 : decode cX4_halvings 13 = .ok (.iconst 2, 1) := by decide +kernel
theorem dX4_halvings_14 : decode cX4_halvings 14 = .ok (.imul, 1) := by decide +kernel
theorem dX4_halvings_15 : decode cX4_halvings 15 = .ok (.istore_n 2, 1) := by decide +kernel
theorem dX4_halvings_16 : decode cX4_halvings 16 = .ok (.goto (-12), 3) := by decide +kernel
theorem dX4_halvings_19 : decode cX4_halvings 19 = .ok (.iload_n 1, 1) := by decide +kernel
theorem dX4_halvings_20 : decode cX4_halvings 20 = .ok (.ireturn, 1) := by decide +kernel
def fX4_halvings_4 (N : Nat)  : Nat → Int32 → Int32 → Int32 → Option (Int32)
  | 0 => fun _ _ _ => none
  | n + 1 => fun x0 x1 x2 =>
    if x0 ≤ x2 then
    (some (x1))
    else (mm_nm (x1 + (1 : Int32)) (fun (y_2 : Int32) =>
    mm_nm ((x2 * (2 : Int32))) (fun (y_3 : Int32) =>
    fX4_halvings_4 N n x0 y_2 y_3)))

set_option maxHeartbeats 4000000 in
set_option maxRecDepth 100000 in
theorem tX4_halvings_4 {p : Program} {l : Launch} {e : Env} {s : State} {m : MethodId} {args : Array Value} {below : List Frame} {meth : Method} {c : Code} {D : va_G} {cI cL cS cH : ClassId} {A : Nat → Prop} {d : Nat} (hd : 1 ≤ d) (C0 : mm_Cx p s m args meth c RX4 cX4_halvings 3 (some .int) D (mm_T cI cL cS cH) A) (hA : ∀ q, s.heap.size ≤ q → A q)  {r : Int32} (N : Nat)  : ∀ (n : Nat), ∀ (x0 : Int32) (x1 : Int32) (x2 : Int32) (H : Heap) (locs : List Loc) (ls : Array Slot), fX4_halvings_4 N n x0 x1 x2 = some r → va_P D mm_cl ([] : va_W) H → va_D A ([] : va_W) → va_S A s.heap H locs → lv_has ls 3 [(0, .int x0), (1, .int x1), (2, .int x2)] → W p l e (mm_rr d) s m args below meth c H locs 0 0 (mm_Z below D A ([] : va_W) (some (.int r)) args s) (F0 m 4 ls []) := by
  obtain ⟨hx, hb, hml, hown, hts, hr, hlocks, hK, hSt⟩ := id C0
  intro n
  induction n with
  | zero =>
    intro x0 x1 x2 H locs ls hf
    cases (show none = some _ from hf)
  | succ n ih =>
    intro x0 x1 x2 H locs ls hf hP hD hS hl
    unfold fX4_halvings_4 at hf
    refine lv_iload_n hx hb dX4_halvings_4 rfl (lv_at hl 2 rfl) ?_
    refine lv_iload_n hx hb dX4_halvings_5 rfl (lv_at hl 0 rfl) ?_
    refine lv_icmp_ge (tgt := 19) hx hb dX4_halvings_6 (by decide) (fun c_1 => ?_) (fun c_1 => ?_)
    · have hf := mm_ip hf c_1
      refine lv_iload_n hx hb dX4_halvings_19 rfl (lv_at hl 1 rfl) ?_
      obtain rfl := mm_inj1 hf
      exact mm_iret C0 hP hD hS dX4_halvings_20
    · have hf := mm_in hf c_1
      obtain ⟨y_2, ey_2⟩ : ∃ z : Int32, z = x1 + (1 : Int32) := ⟨_, rfl⟩
      have hf := mm_nms hf ey_2
      refine lv_iinc (v := y_2) (lv' := [(1, .int y_2), (0, .int x0), (2, .int x2)]) hx hb dX4_halvings_9 hl (k := 1) rfl (by rw [ey_2]; rfl) (by decide) rfl (fun ls hl => ?_)
      refine lv_iload_n hx hb dX4_halvings_12 rfl (lv_at hl 2 rfl) ?_
      refine lv_iconst (v := 2) hx hb dX4_halvings_13 (by decide) ?_
      refine lv_imul hx hb dX4_halvings_14 ?_
      refine lv_topi (fun y_3 ey_3 => ?_)
      have hf := mm_nms hf ey_3
      refine lv_istore_n (lv' := [(2, .int y_3), (1, .int y_2), (0, .int x0)]) hx hb dX4_halvings_15 rfl hl (by decide) rfl (fun ls hl => ?_)
      refine lv_goto (tgt := 4) hx hb dX4_halvings_16 (by decide) ?_
      exact ih _ _ _ H locs ls hf hP hD hS (lv_sub hl [2, 1, 0] rfl)

def fX4_halvings (N : Nat) (x0 : Int32) : Option (Int32) :=
    fX4_halvings_4 N N x0 (0 : Int32) (1 : Int32)

set_option maxHeartbeats 4000000 in
set_option maxRecDepth 100000 in
theorem ctX4_halvings {l : Launch} {D : va_G} {cI cL cS cH : ClassId} {x0 : Int32}  {r : Int32} {N d : Nat} (hd : 1 ≤ d) (hf : fX4_halvings N x0 = some r) : mm_Ct l yX4_halvings cX4_halvings 3 (some .int) d D (mm_T cI cL cS cH) [.int x0] ([] : va_W) ([] : va_W) (some (.int r)) := by
  refine mm_of (by decide) (Nat.le_of_ble_eq_true rfl) ?_
  intro p e s m args below meth c A H locs ls C0 hP hD hA hS hl
  have C0 : mm_Cx p s m args meth c RX4 cX4_halvings 3 (some .int) D (mm_T cI cL cS cH) A := C0
  obtain ⟨hx, hb, hml, hown, hts, hr, hlocks, hK, hSt⟩ := id C0
  have hl : lv_has ls 3 [(0, .int x0)] := hl
  unfold fX4_halvings at hf
  refine lv_iconst (v := 0) hx hb dX4_halvings_0 (by decide) ?_
  refine lv_istore_n (lv' := [(1, .int (0 : Int32)), (0, .int x0)]) hx hb dX4_halvings_1 rfl hl (by decide) rfl (fun ls hl => ?_)
  refine lv_iconst (v := 1) hx hb dX4_halvings_2 (by decide) ?_
  refine lv_istore_n (lv' := [(2, .int (1 : Int32)), (1, .int (0 : Int32)), (0, .int x0)]) hx hb dX4_halvings_3 rfl hl (by decide) rfl (fun ls hl => ?_)
  exact tX4_halvings_4 hd C0 hA N  N _ _ _ H locs ls hf hP hD hS (lv_sub hl [2, 1, 0] rfl)

theorem dX4_canEnd_0 : decode cX4_canEnd 0 = .ok (.iload_n 2, 1) := by decide +kernel
theorem dX4_canEnd_1 : decode cX4_canEnd 1 = .ok (.iconst 4, 1) := by decide +kernel
theorem dX4_canEnd_2 : decode cX4_canEnd 2 = .ok (.if_icmp .ge 10, 3) := by decide +kernel
theorem dX4_canEnd_5 : decode cX4_canEnd 5 = .ok (.aload_n 0, 1) := by decide +kernel
theorem dX4_canEnd_6 : decode cX4_canEnd 6 = .ok (.getfield 74, 3) := by decide +kernel
theorem dX4_canEnd_9 : decode cX4_canEnd 9 = .ok (.goto 7, 3) := by decide +kernel
theorem dX4_canEnd_12 : decode cX4_canEnd 12 = .ok (.aload_n 0, 1) := by decide +kernel
theorem dX4_canEnd_13 : decode cX4_canEnd 13 = .ok (.getfield 77, 3) := by decide +kernel
theorem dX4_canEnd_16 : decode cX4_canEnd 16 = .ok (.istore 4, 2) := by decide +kernel
theorem dX4_canEnd_18 : decode cX4_canEnd 18 = .ok (.aload_n 0, 1) := by decide +kernel
theorem dX4_canEnd_19 : decode cX4_canEnd 19 = .ok (.iload_n 1, 1) := by decide +kernel
theorem dX4_canEnd_20 : decode cX4_canEnd 20 = .ok (.iload_n 2, 1) := by decide +kernel
theorem dX4_canEnd_21 : decode cX4_canEnd 21 = .ok (.invokevirtual 80, 3) := by decide +kernel
theorem dX4_canEnd_24 : decode cX4_canEnd 24 = .ok (.invokestatic 84, 3) := by decide +kernel
theorem dX4_canEnd_27 : decode cX4_canEnd 27 = .ok (.iload 4, 2) := by decide +kernel
theorem dX4_canEnd_29 : decode cX4_canEnd 29 = .ok (.invokestatic 84, 3) := by decide +kernel
theorem dX4_canEnd_32 : decode cX4_canEnd 32 = .ok (.iadd, 1) := by decide +kernel
theorem dX4_canEnd_33 : decode cX4_canEnd 33 = .ok (.iload_n 3, 1) := by decide +kernel
theorem dX4_canEnd_34 : decode cX4_canEnd 34 = .ok (.if_icmp .gt 7, 3) := by decide +kernel
theorem dX4_canEnd_37 : decode cX4_canEnd 37 = .ok (.iconst 1, 1) := by decide +kernel
theorem dX4_canEnd_38 : decode cX4_canEnd 38 = .ok (.goto 4, 3) := by decide +kernel
theorem dX4_canEnd_41 : decode cX4_canEnd 41 = .ok (.iconst 0, 1) := by decide +kernel
theorem dX4_canEnd_42 : decode cX4_canEnd 42 = .ok (.ireturn, 1) := by decide +kernel
def fX4_canEnd_16 (N : Nat)  (x1 : Int32) (x2 : Int32) (x3 : Int32) (s0 : Int32) (p0_high : Int32) (p0_wide : Int32) : Option (Bool) :=
    mm_bd1 (fX5_spanBehind N x1 x2 p0_high p0_wide) (fun (r_2 : Int32) =>
    mm_bd1 (fX4_halvings N r_2) (fun (r_4 : Int32) =>
    mm_bd1 (fX4_halvings N s0) (fun (r_6 : Int32) =>
    if x3 < (r_4 + r_6) then
    (some (false))
    else (some (true)))))

set_option maxHeartbeats 4000000 in
set_option maxRecDepth 100000 in
theorem tX4_canEnd_16 {p : Program} {l : Launch} {e : Env} {s : State} {m : MethodId} {args : Array Value} {below : List Frame} {meth : Method} {c : Code} {D : va_G} {cI cL cS cH : ClassId} {A : Nat → Prop} {d : Nat} {a : Nat → Nat} (hd : 3 ≤ d) (C0 : mm_Cx p s m args meth c RX4 cX4_canEnd 5 (some .boolean) D (mm_T cI cL cS cH) A) (hA : ∀ q, s.heap.size ≤ q → A q) {p0_rows : Int32} {p0_cols : Int32} {p0_folds : Int32} {p0_wrong : Int32} {p0_more : Int32} {p0_rowOf : List Int32} {p0_colOf : List Int32} {p0_below : List Int32} {p0_face : List Int32} {p0_worn : List Int32} {p0_last : List Int32} {p0_bend : List Int32} {p0_tall : List Int32} {r : Bool} (N : Nat)  : ∀ (x1 : Int32) (x2 : Int32) (x3 : Int32) (s0 : Int32) (p0_high : Int32) (p0_wide : Int32) (H : Heap) (locs : List Loc) (ls : Array Slot), fX4_canEnd_16 N x1 x2 x3 s0 p0_high p0_wide = some r → va_P D mm_cl (wd_X5 cI cL cS cH a p0_rows p0_cols p0_high p0_wide p0_folds p0_wrong p0_more p0_rowOf p0_colOf p0_below p0_face p0_worn p0_last p0_bend p0_tall) H → va_D A (wd_X5 cI cL cS cH a p0_rows p0_cols p0_high p0_wide p0_folds p0_wrong p0_more p0_rowOf p0_colOf p0_below p0_face p0_worn p0_last p0_bend p0_tall) → va_S A s.heap H locs → lv_has ls 5 [(0, .ref (a 0)), (1, .int x1), (2, .int x2), (3, .int x3)] → W p l e (mm_rr d) s m args below meth c H locs 0 0 (mm_Z below D A (wd_X5 cI cL cS cH a p0_rows p0_cols p0_high p0_wide p0_folds p0_wrong p0_more p0_rowOf p0_colOf p0_below p0_face p0_worn p0_last p0_bend p0_tall) (some (.int (mm_b r))) args s) (F0 m 16 ls [.int s0]) := by
  obtain ⟨hx, hb, hml, hown, hts, hr, hlocks, hK, hSt⟩ := id C0
  intro x1 x2 x3 s0 p0_high p0_wide H locs ls hf hP hD hS hl
  unfold fX4_canEnd_16 at hf
  refine lv_istore (lv' := [(4, .int s0), (0, .ref (a 0)), (1, .int x1), (2, .int x2), (3, .int x3)]) hx hb dX4_canEnd_16 hl (by decide) rfl (fun ls hl => ?_)
  refine lv_aload_n hx hb dX4_canEnd_18 rfl (lv_at hl 1 rfl) ?_
  refine lv_iload_n hx hb dX4_canEnd_19 rfl (lv_at hl 2 rfl) ?_
  refine lv_iload_n hx hb dX4_canEnd_20 rfl (lv_at hl 3 rfl) ?_
  obtain ⟨r_2, hc_3, hf⟩ := mm_bd1s hf
  refine mm_callVF (q0 := 0) (ci := 5) (rest := []) C0 lk_X4_80 (ctX5_spanBehind (a := a) (d := d - 1) (by omega) hc_3) (by omega) rfl hl.1 rfl (mm_cat rfl) dX4_canEnd_21 hP hD hA hS rfl rfl (fun H locs hP hD hS => ?_)
  refine W.eq (g2 := F0 m 24 ls [.int r_2]) rfl ?_
  obtain ⟨r_4, hc_5, hf⟩ := mm_bd1s hf
  refine mm_callS0 (rest := []) C0 lk_X4_84 (ctX4_halvings (d := d - 1) (by omega) hc_5) (by omega) rfl hl.1 rfl (mm_cat rfl) dX4_canEnd_24 hP hD hA hS (fun H locs hP hS => ?_)
  refine W.eq (g2 := F0 m 27 ls [.int r_4]) rfl ?_
  refine lv_iload hx hb dX4_canEnd_27 (lv_at hl 0 rfl) ?_
  obtain ⟨r_6, hc_7, hf⟩ := mm_bd1s hf
  refine mm_callS0 (rest := [.int r_4]) C0 lk_X4_84 (ctX4_halvings (d := d - 1) (by omega) hc_7) (by omega) rfl hl.1 rfl (mm_cat rfl) dX4_canEnd_29 hP hD hA hS (fun H locs hP hS => ?_)
  refine W.eq (g2 := F0 m 32 ls [.int r_6, .int r_4]) rfl ?_
  refine lv_iadd hx hb dX4_canEnd_32 ?_
  refine lv_iload_n hx hb dX4_canEnd_33 rfl (lv_at hl 4 rfl) ?_
  refine lv_icmp_gt (tgt := 41) hx hb dX4_canEnd_34 (by decide) (fun c_8 => ?_) (fun c_8 => ?_)
  · have hf := mm_ip hf c_8
    refine lv_iconst (v := 0) hx hb dX4_canEnd_41 (by decide) ?_
    obtain rfl := mm_inj1 hf
    exact mm_zret (v := false) C0 hP hD hS dX4_canEnd_42 (by decide)
  · have hf := mm_in hf c_8
    refine lv_iconst (v := 1) hx hb dX4_canEnd_37 (by decide) ?_
    refine lv_goto (tgt := 42) hx hb dX4_canEnd_38 (by decide) ?_
    obtain rfl := mm_inj1 hf
    exact mm_zret (v := true) C0 hP hD hS dX4_canEnd_42 (by decide)

def fX4_canEnd (N : Nat) (x1 : Int32) (x2 : Int32) (x3 : Int32) (p0_high : Int32) (p0_wide : Int32) : Option (Bool) :=
    if (4 : Int32) ≤ x2 then
    (fX4_canEnd_16 N x1 x2 x3 p0_wide p0_high p0_wide)
    else (fX4_canEnd_16 N x1 x2 x3 p0_high p0_high p0_wide)

set_option maxHeartbeats 4000000 in
set_option maxRecDepth 100000 in
theorem ctX4_canEnd {l : Launch} {D : va_G} {cI cL cS cH : ClassId} {a : Nat → Nat} {x1 : Int32} {x2 : Int32} {x3 : Int32} {p0_rows : Int32} {p0_cols : Int32} {p0_high : Int32} {p0_wide : Int32} {p0_folds : Int32} {p0_wrong : Int32} {p0_more : Int32} {p0_rowOf : List Int32} {p0_colOf : List Int32} {p0_below : List Int32} {p0_face : List Int32} {p0_worn : List Int32} {p0_last : List Int32} {p0_bend : List Int32} {p0_tall : List Int32} {r : Bool} {N d : Nat} (hd : 3 ≤ d) (hf : fX4_canEnd N x1 x2 x3 p0_high p0_wide = some r) : mm_Ct l yX4_canEnd cX4_canEnd 5 (some .boolean) d D (mm_T cI cL cS cH) [.ref (a 0), .int x1, .int x2, .int x3] (wd_X5 cI cL cS cH a p0_rows p0_cols p0_high p0_wide p0_folds p0_wrong p0_more p0_rowOf p0_colOf p0_below p0_face p0_worn p0_last p0_bend p0_tall) (wd_X5 cI cL cS cH a p0_rows p0_cols p0_high p0_wide p0_folds p0_wrong p0_more p0_rowOf p0_colOf p0_below p0_face p0_worn p0_last p0_bend p0_tall) (some (.int (mm_b r))) := by
  refine mm_of (by decide) (Nat.le_of_ble_eq_true rfl) ?_
  intro p e s m args below meth c A H locs ls C0 hP hD hA hS hl
  have C0 : mm_Cx p s m args meth c RX4 cX4_canEnd 5 (some .boolean) D (mm_T cI cL cS cH) A := C0
  obtain ⟨hx, hb, hml, hown, hts, hr, hlocks, hK, hSt⟩ := id C0
  have hl : lv_has ls 5 [(0, .ref (a 0)), (1, .int x1), (2, .int x2), (3, .int x3)] := hl
  unfold fX4_canEnd at hf
  refine lv_iload_n hx hb dX4_canEnd_0 rfl (lv_at hl 2 rfl) ?_
  refine lv_iconst (v := 4) hx hb dX4_canEnd_1 (by decide) ?_
  refine lv_icmp_ge (tgt := 12) hx hb dX4_canEnd_2 (by decide) (fun c_1 => ?_) (fun c_1 => ?_)
  · have hf := mm_ip hf c_1
    refine lv_aload_n hx hb dX4_canEnd_12 rfl (lv_at hl 0 rfl) ?_
    refine mm_get C0 hP iw_X5 0 rfl rfl 3 (by decide) fl_X4_77 rfl dX4_canEnd_13 ?_
    exact tX4_canEnd_16 hd C0 hA N  _ _ _ _ _ _ H locs ls hf hP hD hS (lv_sub hl [0, 1, 2, 3] rfl)
  · have hf := mm_in hf c_1
    refine lv_aload_n hx hb dX4_canEnd_5 rfl (lv_at hl 0 rfl) ?_
    refine mm_get C0 hP iw_X5 0 rfl rfl 2 (by decide) fl_X4_74 rfl dX4_canEnd_6 ?_
    refine lv_goto (tgt := 16) hx hb dX4_canEnd_9 (by decide) ?_
    exact tX4_canEnd_16 hd C0 hA N  _ _ _ _ _ _ H locs ls hf hP hD hS (lv_sub hl [0, 1, 2, 3] rfl)

theorem dX4_isLess_0 : decode cX4_isLess 0 = .ok (.aload_n 1, 1) := by decide +kernel
theorem dX4_isLess_1 : decode cX4_isLess 1 = .ok (.getfield 96, 3) := by decide +kernel
theorem dX4_isLess_4 : decode cX4_isLess 4 = .ok (.aload_n 0, 1) := by decide +kernel
theorem dX4_isLess_5 : decode cX4_isLess 5 = .ok (.getfield 99, 3) := by decide +kernel
theorem dX4_isLess_8 : decode cX4_isLess 8 = .ok (.if_icmp .eq 20, 3) := by decide +kernel
theorem dX4_isLess_11 : decode cX4_isLess 11 = .ok (.aload_n 1, 1) := by decide +kernel
theorem dX4_isLess_12 : decode cX4_isLess 12 = .ok (.getfield 96, 3) := by decide +kernel
theorem dX4_isLess_15 : decode cX4_isLess 15 = .ok (.aload_n 0, 1) := by decide +kernel
theorem dX4_isLess_16 : decode cX4_isLess 16 = .ok (.getfield 99, 3) := by decide +kernel
theorem dX4_isLess_19 : decode cX4_isLess 19 = .ok (.if_icmp .ge 7, 3) := by decide +kernel
theorem dX4_isLess_22 : decode cX4_isLess 22 = .ok (.iconst 1, 1) := by decide +kernel
theorem dX4_isLess_23 : decode cX4_isLess 23 = .ok (.goto 4, 3) := by decide +kernel
theorem dX4_isLess_26 : decode cX4_isLess 26 = .ok (.iconst 0, 1) := by decide +kernel
theorem dX4_isLess_27 : decode cX4_isLess 27 = .ok (.ireturn, 1) := by decide +kernel
theorem dX4_isLess_28 : decode cX4_isLess 28 = .ok (.aload_n 1, 1) := by decide +kernel
theorem dX4_isLess_29 : decode cX4_isLess 29 = .ok (.getfield 100, 3) := by decide +kernel
theorem dX4_isLess_32 : decode cX4_isLess 32 = .ok (.aload_n 0, 1) := by decide +kernel
theorem dX4_isLess_33 : decode cX4_isLess 33 = .ok (.getfield 103, 3) := by decide +kernel
theorem dX4_isLess_36 : decode cX4_isLess 36 = .ok (.if_icmp .eq 20, 3) := by decide +kernel
theorem dX4_isLess_39 : decode cX4_isLess 39 = .ok (.aload_n 1, 1) := by decide +kernel
theorem dX4_isLess_40 : decode cX4_isLess 40 = .ok (.getfield 100, 3) := by decide +kernel
theorem dX4_isLess_43 : decode cX4_isLess 43 = .ok (.aload_n 0, 1) := by decide +kernel
theorem dX4_isLess_44 : decode cX4_isLess 44 = .ok (.getfield 103, 3) := by decide +kernel
theorem dX4_isLess_47 : decode cX4_isLess 47 = .ok (.if_icmp .ge 7, 3) := by decide +kernel
theorem dX4_isLess_50 : decode cX4_isLess 50 = .ok (.iconst 1, 1) := by decide +kernel
theorem dX4_isLess_51 : decode cX4_isLess 51 = .ok (.goto 4, 3) := by decide +kernel
theorem dX4_isLess_54 : decode cX4_isLess 54 = .ok (.iconst 0, 1) := by decide +kernel
theorem dX4_isLess_55 : decode cX4_isLess 55 = .ok (.ireturn, 1) := by decide +kernel
theorem dX4_isLess_56 : decode cX4_isLess 56 = .ok (.iload_n 2, 1) := by decide +kernel
theorem dX4_isLess_57 : decode cX4_isLess 57 = .ok (.aload_n 0, 1) := by decide +kernel
theorem dX4_isLess_58 : decode cX4_isLess 58 = .ok (.getfield 33, 3) := by decide +kernel
theorem dX4_isLess_61 : decode cX4_isLess 61 = .ok (.if_icmp .ge 7, 3) := by decide +kernel
theorem dX4_isLess_64 : decode cX4_isLess 64 = .ok (.iconst 1, 1) := by decide +kernel
theorem dX4_isLess_65 : decode cX4_isLess 65 = .ok (.goto 4, 3) := by decide +kernel
theorem dX4_isLess_68 : decode cX4_isLess 68 = .ok (.iconst 0, 1) := by decide +kernel
theorem dX4_isLess_69 : decode cX4_isLess 69 = .ok (.ireturn, 1) := by decide +kernel
def fX4_isLessv3 (N : Nat) (x2 : Int32) (v_wrong : Int32) (v_more : Int32) (v_folds : Int32) (v_levels3_wrong : Int32) (v_levels3_more : Int32) : Option (Bool) :=
    if v_levels3_wrong = v_wrong then
    (if v_levels3_more = v_more then
    (if v_folds ≤ x2 then
    (some (false))
    else (some (true)))
    else (if v_more ≤ v_levels3_more then
    (some (false))
    else (some (true))))
    else (if v_wrong ≤ v_levels3_wrong then
    (some (false))
    else (some (true)))

set_option maxHeartbeats 4000000 in
set_option maxRecDepth 100000 in
theorem ctX4_isLessv3 {l : Launch} {D : va_G} {cI cL cS cH : ClassId} {a : Nat → Nat} {x2 : Int32} {v_found : Bool} {v_wrong : Int32} {v_more : Int32} {v_folds : Int32} {v_wanted : Int32} {v_levels0_rows : Int32} {v_levels0_cols : Int32} {v_levels0_high : Int32} {v_levels0_wide : Int32} {v_levels0_folds : Int32} {v_levels0_wrong : Int32} {v_levels0_more : Int32} {v_levels0_rowOf : List Int32} {v_levels0_colOf : List Int32} {v_levels0_below : List Int32} {v_levels0_face : List Int32} {v_levels0_worn : List Int32} {v_levels0_last : List Int32} {v_levels0_bend : List Int32} {v_levels0_tall : List Int32} {v_levels1_rows : Int32} {v_levels1_cols : Int32} {v_levels1_high : Int32} {v_levels1_wide : Int32} {v_levels1_folds : Int32} {v_levels1_wrong : Int32} {v_levels1_more : Int32} {v_levels1_rowOf : List Int32} {v_levels1_colOf : List Int32} {v_levels1_below : List Int32} {v_levels1_face : List Int32} {v_levels1_worn : List Int32} {v_levels1_last : List Int32} {v_levels1_bend : List Int32} {v_levels1_tall : List Int32} {v_levels2_rows : Int32} {v_levels2_cols : Int32} {v_levels2_high : Int32} {v_levels2_wide : Int32} {v_levels2_folds : Int32} {v_levels2_wrong : Int32} {v_levels2_more : Int32} {v_levels2_rowOf : List Int32} {v_levels2_colOf : List Int32} {v_levels2_below : List Int32} {v_levels2_face : List Int32} {v_levels2_worn : List Int32} {v_levels2_last : List Int32} {v_levels2_bend : List Int32} {v_levels2_tall : List Int32} {v_levels3_rows : Int32} {v_levels3_cols : Int32} {v_levels3_high : Int32} {v_levels3_wide : Int32} {v_levels3_folds : Int32} {v_levels3_wrong : Int32} {v_levels3_more : Int32} {v_levels3_rowOf : List Int32} {v_levels3_colOf : List Int32} {v_levels3_below : List Int32} {v_levels3_face : List Int32} {v_levels3_worn : List Int32} {v_levels3_last : List Int32} {v_levels3_bend : List Int32} {v_levels3_tall : List Int32} {v_path : List Int32} {v_best : List Int32} {r : Bool} {N d : Nat} (hd : 1 ≤ d) (hf : fX4_isLessv3 N x2 v_wrong v_more v_folds v_levels3_wrong v_levels3_more = some r) : mm_Ct l yX4_isLess cX4_isLess 3 (some .boolean) d D (mm_T cI cL cS cH) [.ref (a 0), .ref (a 29), .int x2] (wd_X4 cI cL cS cH a v_found v_wrong v_more v_folds v_wanted v_levels0_rows v_levels0_cols v_levels0_high v_levels0_wide v_levels0_folds v_levels0_wrong v_levels0_more v_levels0_rowOf v_levels0_colOf v_levels0_below v_levels0_face v_levels0_worn v_levels0_last v_levels0_bend v_levels0_tall v_levels1_rows v_levels1_cols v_levels1_high v_levels1_wide v_levels1_folds v_levels1_wrong v_levels1_more v_levels1_rowOf v_levels1_colOf v_levels1_below v_levels1_face v_levels1_worn v_levels1_last v_levels1_bend v_levels1_tall v_levels2_rows v_levels2_cols v_levels2_high v_levels2_wide v_levels2_folds v_levels2_wrong v_levels2_more v_levels2_rowOf v_levels2_colOf v_levels2_below v_levels2_face v_levels2_worn v_levels2_last v_levels2_bend v_levels2_tall v_levels3_rows v_levels3_cols v_levels3_high v_levels3_wide v_levels3_folds v_levels3_wrong v_levels3_more v_levels3_rowOf v_levels3_colOf v_levels3_below v_levels3_face v_levels3_worn v_levels3_last v_levels3_bend v_levels3_tall v_path v_best) (wd_X4 cI cL cS cH a v_found v_wrong v_more v_folds v_wanted v_levels0_rows v_levels0_cols v_levels0_high v_levels0_wide v_levels0_folds v_levels0_wrong v_levels0_more v_levels0_rowOf v_levels0_colOf v_levels0_below v_levels0_face v_levels0_worn v_levels0_last v_levels0_bend v_levels0_tall v_levels1_rows v_levels1_cols v_levels1_high v_levels1_wide v_levels1_folds v_levels1_wrong v_levels1_more v_levels1_rowOf v_levels1_colOf v_levels1_below v_levels1_face v_levels1_worn v_levels1_last v_levels1_bend v_levels1_tall v_levels2_rows v_levels2_cols v_levels2_high v_levels2_wide v_levels2_folds v_levels2_wrong v_levels2_more v_levels2_rowOf v_levels2_colOf v_levels2_below v_levels2_face v_levels2_worn v_levels2_last v_levels2_bend v_levels2_tall v_levels3_rows v_levels3_cols v_levels3_high v_levels3_wide v_levels3_folds v_levels3_wrong v_levels3_more v_levels3_rowOf v_levels3_colOf v_levels3_below v_levels3_face v_levels3_worn v_levels3_last v_levels3_bend v_levels3_tall v_path v_best) (some (.int (mm_b r))) := by
  refine mm_of (by decide) (Nat.le_of_ble_eq_true rfl) ?_
  intro p e s m args below meth c A H locs ls C0 hP hD hA hS hl
  have C0 : mm_Cx p s m args meth c RX4 cX4_isLess 3 (some .boolean) D (mm_T cI cL cS cH) A := C0
  obtain ⟨hx, hb, hml, hown, hts, hr, hlocks, hK, hSt⟩ := id C0
  have hl : lv_has ls 3 [(0, .ref (a 0)), (1, .ref (a 29)), (2, .int x2)] := hl
  unfold fX4_isLessv3 at hf
  refine lv_aload_n hx hb dX4_isLess_0 rfl (lv_at hl 1 rfl) ?_
  refine mm_get C0 hP iw_X5 29 rfl rfl 5 (by decide) fl_X4_96 rfl dX4_isLess_1 ?_
  refine lv_aload_n hx hb dX4_isLess_4 rfl (lv_at hl 0 rfl) ?_
  refine mm_get C0 hP iw_X4 0 rfl rfl 1 (by decide) fl_X4_99 rfl dX4_isLess_5 ?_
  refine lv_icmp_eq (tgt := 28) hx hb dX4_isLess_8 (by decide) (fun c_1 => ?_) (fun c_1 => ?_)
  · have hf := mm_ip hf c_1
    refine lv_aload_n hx hb dX4_isLess_28 rfl (lv_at hl 1 rfl) ?_
    refine mm_get C0 hP iw_X5 29 rfl rfl 6 (by decide) fl_X4_100 rfl dX4_isLess_29 ?_
    refine lv_aload_n hx hb dX4_isLess_32 rfl (lv_at hl 0 rfl) ?_
    refine mm_get C0 hP iw_X4 0 rfl rfl 2 (by decide) fl_X4_103 rfl dX4_isLess_33 ?_
    refine lv_icmp_eq (tgt := 56) hx hb dX4_isLess_36 (by decide) (fun c_2 => ?_) (fun c_2 => ?_)
    · have hf := mm_ip hf c_2
      refine lv_iload_n hx hb dX4_isLess_56 rfl (lv_at hl 2 rfl) ?_
      refine lv_aload_n hx hb dX4_isLess_57 rfl (lv_at hl 0 rfl) ?_
      refine mm_get C0 hP iw_X4 0 rfl rfl 3 (by decide) fl_X4_33 rfl dX4_isLess_58 ?_
      refine lv_icmp_ge (tgt := 68) hx hb dX4_isLess_61 (by decide) (fun c_3 => ?_) (fun c_3 => ?_)
      · have hf := mm_ip hf c_3
        refine lv_iconst (v := 0) hx hb dX4_isLess_68 (by decide) ?_
        obtain rfl := mm_inj1 hf
        exact mm_zret (v := false) C0 hP hD hS dX4_isLess_69 (by decide)
      · have hf := mm_in hf c_3
        refine lv_iconst (v := 1) hx hb dX4_isLess_64 (by decide) ?_
        refine lv_goto (tgt := 69) hx hb dX4_isLess_65 (by decide) ?_
        obtain rfl := mm_inj1 hf
        exact mm_zret (v := true) C0 hP hD hS dX4_isLess_69 (by decide)
    · have hf := mm_in hf c_2
      refine lv_aload_n hx hb dX4_isLess_39 rfl (lv_at hl 1 rfl) ?_
      refine mm_get C0 hP iw_X5 29 rfl rfl 6 (by decide) fl_X4_100 rfl dX4_isLess_40 ?_
      refine lv_aload_n hx hb dX4_isLess_43 rfl (lv_at hl 0 rfl) ?_
      refine mm_get C0 hP iw_X4 0 rfl rfl 2 (by decide) fl_X4_103 rfl dX4_isLess_44 ?_
      refine lv_icmp_ge (tgt := 54) hx hb dX4_isLess_47 (by decide) (fun c_4 => ?_) (fun c_4 => ?_)
      · have hf := mm_ip hf c_4
        refine lv_iconst (v := 0) hx hb dX4_isLess_54 (by decide) ?_
        obtain rfl := mm_inj1 hf
        exact mm_zret (v := false) C0 hP hD hS dX4_isLess_55 (by decide)
      · have hf := mm_in hf c_4
        refine lv_iconst (v := 1) hx hb dX4_isLess_50 (by decide) ?_
        refine lv_goto (tgt := 55) hx hb dX4_isLess_51 (by decide) ?_
        obtain rfl := mm_inj1 hf
        exact mm_zret (v := true) C0 hP hD hS dX4_isLess_55 (by decide)
  · have hf := mm_in hf c_1
    refine lv_aload_n hx hb dX4_isLess_11 rfl (lv_at hl 1 rfl) ?_
    refine mm_get C0 hP iw_X5 29 rfl rfl 5 (by decide) fl_X4_96 rfl dX4_isLess_12 ?_
    refine lv_aload_n hx hb dX4_isLess_15 rfl (lv_at hl 0 rfl) ?_
    refine mm_get C0 hP iw_X4 0 rfl rfl 1 (by decide) fl_X4_99 rfl dX4_isLess_16 ?_
    refine lv_icmp_ge (tgt := 26) hx hb dX4_isLess_19 (by decide) (fun c_5 => ?_) (fun c_5 => ?_)
    · have hf := mm_ip hf c_5
      refine lv_iconst (v := 0) hx hb dX4_isLess_26 (by decide) ?_
      obtain rfl := mm_inj1 hf
      exact mm_zret (v := false) C0 hP hD hS dX4_isLess_27 (by decide)
    · have hf := mm_in hf c_5
      refine lv_iconst (v := 1) hx hb dX4_isLess_22 (by decide) ?_
      refine lv_goto (tgt := 27) hx hb dX4_isLess_23 (by decide) ?_
      obtain rfl := mm_inj1 hf
      exact mm_zret (v := true) C0 hP hD hS dX4_isLess_27 (by decide)

