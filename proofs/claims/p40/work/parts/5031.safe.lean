/-! safe -/
theorem uf_X5_copy (N : Nat) (v_rows : Int32) (v_cols : Int32) (v_high : Int32) (v_wide : Int32) (v_folds : Int32) (v_wrong : Int32) (v_more : Int32) (v_rowOf : List Int32) (v_colOf : List Int32) (v_below : List Int32) (v_face : List Int32) (v_worn : List Int32) (v_last : List Int32) (p1_rows : Int32) (p1_cols : Int32) (p1_high : Int32) (p1_wide : Int32) (p1_folds : Int32) (p1_wrong : Int32) (p1_more : Int32) (p1_rowOf : List Int32) (p1_colOf : List Int32) (p1_below : List Int32) (p1_face : List Int32) (p1_worn : List Int32) (p1_last : List Int32) : fX5_copy N v_rows v_cols v_high v_wide v_folds v_wrong v_more v_rowOf v_colOf v_below v_face v_worn v_last p1_rows p1_cols p1_high p1_wide p1_folds p1_wrong p1_more p1_rowOf p1_colOf p1_below p1_face p1_worn p1_last = mm_ck (mm_cok (0 : Int32) (0 : Int32) (32 : Int32) p1_rowOf.length v_rowOf.length) (mm_nm (mm_cp p1_rowOf v_rowOf (0 : Int32) (0 : Int32) (32 : Int32)) (fun (l_2 : List Int32) =>
    mm_ck (mm_cok (0 : Int32) (0 : Int32) (32 : Int32) p1_colOf.length v_colOf.length) (mm_nm (mm_cp p1_colOf v_colOf (0 : Int32) (0 : Int32) (32 : Int32)) (fun (l_4 : List Int32) =>
    mm_ck (mm_cok (0 : Int32) (0 : Int32) (32 : Int32) p1_below.length v_below.length) (mm_nm (mm_cp p1_below v_below (0 : Int32) (0 : Int32) (32 : Int32)) (fun (l_6 : List Int32) =>
    mm_ck (mm_cok (0 : Int32) (0 : Int32) (32 : Int32) p1_face.length v_face.length) (mm_nm (mm_cp p1_face v_face (0 : Int32) (0 : Int32) (32 : Int32)) (fun (l_8 : List Int32) =>
    mm_ck (mm_cok (0 : Int32) (0 : Int32) (64 : Int32) p1_worn.length v_worn.length) (mm_nm (mm_cp p1_worn v_worn (0 : Int32) (0 : Int32) (64 : Int32)) (fun (l_10 : List Int32) =>
    mm_ck (mm_cok (0 : Int32) (0 : Int32) (64 : Int32) p1_last.length v_last.length) (mm_nm (mm_cp p1_last v_last (0 : Int32) (0 : Int32) (64 : Int32)) (fun (l_12 : List Int32) =>
    some (p1_rows, p1_cols, p1_high, p1_wide, p1_folds, p1_wrong, p1_more, l_2, l_4, l_6, l_8, l_10, l_12))))))))))))) := rfl

set_option maxHeartbeats 4000000 in
set_option maxRecDepth 20000 in
theorem sf_X5_copy {N : Nat} (hN : 700 ≤ N) {v_rows : Int32} {v_cols : Int32} {v_high : Int32} {v_wide : Int32} {v_folds : Int32} {v_wrong : Int32} {v_more : Int32} {v_rowOf : List Int32} {v_colOf : List Int32} {v_below : List Int32} {v_face : List Int32} {v_worn : List Int32} {v_last : List Int32} {p1_rows : Int32} {p1_cols : Int32} {p1_high : Int32} {p1_wide : Int32} {p1_folds : Int32} {p1_wrong : Int32} {p1_more : Int32} {p1_rowOf : List Int32} {p1_colOf : List Int32} {p1_below : List Int32} {p1_face : List Int32} {p1_worn : List Int32} {p1_last : List Int32} (h_0 : 1 ≤ v_rows.toInt) (h_1 : v_rows.toInt ≤ 4) (h_2 : 1 ≤ v_cols.toInt) (h_3 : v_cols.toInt ≤ 8) (h_4 : 1 ≤ v_high.toInt) (h_5 : v_high.toInt ≤ 4) (h_6 : 1 ≤ v_wide.toInt) (h_7 : v_wide.toInt ≤ 8) (h_8 : v_rowOf.length = 32) (h_9 : v_colOf.length = 32) (h_10 : v_below.length = 32) (h_11 : v_face.length = 32) (h_12 : v_worn.length = 64) (h_13 : v_last.length = 64) (h_14 : 1 ≤ p1_rows.toInt) (h_15 : p1_rows.toInt ≤ 4) (h_16 : 1 ≤ p1_cols.toInt) (h_17 : p1_cols.toInt ≤ 8) (h_18 : 1 ≤ p1_high.toInt) (h_19 : p1_high.toInt ≤ 4) (h_20 : 1 ≤ p1_wide.toInt) (h_21 : p1_wide.toInt ≤ 8) (h_22 : p1_rowOf.length = 32) (h_23 : p1_colOf.length = 32) (h_24 : p1_below.length = 32) (h_25 : p1_face.length = 32) (h_26 : p1_worn.length = 64) (h_27 : p1_last.length = 64) (h_28 : zn p1_rowOf 0 (p1_rows.toInt * p1_cols.toInt) 0 p1_high.toInt) (h_29 : zn p1_colOf 0 (p1_rows.toInt * p1_cols.toInt) 0 p1_wide.toInt) : wp (fX5_copy N v_rows v_cols v_high v_wide v_folds v_wrong v_more v_rowOf v_colOf v_below v_face v_worn v_last p1_rows p1_cols p1_high p1_wide p1_folds p1_wrong p1_more p1_rowOf p1_colOf p1_below p1_face p1_worn p1_last) (cu13 (fun (wv_rows : Int32) (wv_cols : Int32) (wv_high : Int32) (wv_wide : Int32) (wv_folds : Int32) (wv_wrong : Int32) (wv_more : Int32) (wv_rowOf : List Int32) (wv_colOf : List Int32) (wv_below : List Int32) (wv_face : List Int32) (wv_worn : List Int32) (wv_last : List Int32) => 1 ≤ wv_rows.toInt ∧ wv_rows.toInt ≤ 4 ∧ 1 ≤ wv_cols.toInt ∧ wv_cols.toInt ≤ 8 ∧ 1 ≤ wv_high.toInt ∧ wv_high.toInt ≤ 4 ∧ 1 ≤ wv_wide.toInt ∧ wv_wide.toInt ≤ 8 ∧ wv_rowOf.length = 32 ∧ wv_colOf.length = 32 ∧ wv_below.length = 32 ∧ wv_face.length = 32 ∧ wv_worn.length = 64 ∧ wv_last.length = 64 ∧ zn wv_rowOf 0 (wv_rows.toInt * wv_cols.toInt) 0 wv_high.toInt ∧ zn wv_colOf 0 (wv_rows.toInt * wv_cols.toInt) 0 wv_wide.toInt ∧ wv_rows.toInt = p1_rows.toInt ∧ wv_cols.toInt = p1_cols.toInt ∧ wv_high.toInt = p1_high.toInt ∧ wv_wide.toInt = p1_wide.toInt)) := by
  refine wp_of (uf_X5_copy _ _ _ _ _ _ _ _ _ _ _ _ _ _ _ _ _ _ _ _ _ _ _ _ _ _ _) ?_
  have n_1 : (0 : Int32).toInt = 0 := by decide
  have n_2 : (32 : Int32).toInt = 32 := by decide
  have hc_3 : (mm_cok (0 : Int32) (0 : Int32) (32 : Int32) p1_rowOf.length v_rowOf.length) = true := i_cok (by omega) (by omega) (by omega) (by omega) (by omega)
  refine wp_ck hc_3 ?_
  refine wp_nm (fun l_2 h_l_2 => ?_)
  have nl_l_2 : l_2.length = 32 := by rw [h_l_2, cp_len hc_3]; assumption
  have hc_4 : (mm_cok (0 : Int32) (0 : Int32) (32 : Int32) p1_colOf.length v_colOf.length) = true := i_cok (by omega) (by omega) (by omega) (by omega) (by omega)
  refine wp_ck hc_4 ?_
  refine wp_nm (fun l_4 h_l_4 => ?_)
  have nl_l_4 : l_4.length = 32 := by rw [h_l_4, cp_len hc_4]; assumption
  have hc_5 : (mm_cok (0 : Int32) (0 : Int32) (32 : Int32) p1_below.length v_below.length) = true := i_cok (by omega) (by omega) (by omega) (by omega) (by omega)
  refine wp_ck hc_5 ?_
  refine wp_nm (fun l_6 h_l_6 => ?_)
  have nl_l_6 : l_6.length = 32 := by rw [h_l_6, cp_len hc_5]; assumption
  have hc_6 : (mm_cok (0 : Int32) (0 : Int32) (32 : Int32) p1_face.length v_face.length) = true := i_cok (by omega) (by omega) (by omega) (by omega) (by omega)
  refine wp_ck hc_6 ?_
  refine wp_nm (fun l_8 h_l_8 => ?_)
  have nl_l_8 : l_8.length = 32 := by rw [h_l_8, cp_len hc_6]; assumption
  have n_7 : (64 : Int32).toInt = 64 := by decide
  have hc_8 : (mm_cok (0 : Int32) (0 : Int32) (64 : Int32) p1_worn.length v_worn.length) = true := i_cok (by omega) (by omega) (by omega) (by omega) (by omega)
  refine wp_ck hc_8 ?_
  refine wp_nm (fun l_10 h_l_10 => ?_)
  have nl_l_10 : l_10.length = 64 := by rw [h_l_10, cp_len hc_8]; assumption
  have hc_9 : (mm_cok (0 : Int32) (0 : Int32) (64 : Int32) p1_last.length v_last.length) = true := i_cok (by omega) (by omega) (by omega) (by omega) (by omega)
  refine wp_ck hc_9 ?_
  refine wp_nm (fun l_12 h_l_12 => ?_)
  have nl_l_12 : l_12.length = 64 := by rw [h_l_12, cp_len hc_9]; assumption
  exact wp_so13 ⟨h_14, h_15, h_16, h_17, h_18, h_19, h_20, h_21, nl_l_2, nl_l_4, nl_l_6, nl_l_8, nl_l_10, nl_l_12, (by first | assumption | (rw [h_l_2, cp_all (m := 32) (by assumption) (by assumption) (by decide)]; assumption)), (by first | assumption | (rw [h_l_4, cp_all (m := 32) (by assumption) (by assumption) (by decide)]; assumption)), (by omega), (by omega), (by omega), (by omega)⟩

theorem uf_X5_beginTrial (N : Nat) (v_rows : Int32) (v_cols : Int32) (v_high : Int32) (v_wide : Int32) (v_folds : Int32) (v_wrong : Int32) (v_more : Int32) (v_rowOf : List Int32) (v_colOf : List Int32) (v_below : List Int32) (v_face : List Int32) (v_worn : List Int32) (v_last : List Int32) (p1_rows : Int32) (p1_cols : Int32) (p1_high : Int32) (p1_wide : Int32) (p1_folds : Int32) (p1_wrong : Int32) (p1_more : Int32) (p1_rowOf : List Int32) (p1_colOf : List Int32) (p1_below : List Int32) (p1_face : List Int32) (p1_worn : List Int32) (p1_last : List Int32) : fX5_beginTrial N v_rows v_cols v_high v_wide v_folds v_wrong v_more v_rowOf v_colOf v_below v_face v_worn v_last p1_rows p1_cols p1_high p1_wide p1_folds p1_wrong p1_more p1_rowOf p1_colOf p1_below p1_face p1_worn p1_last = mm_bd13 (fX5_copy N v_rows v_cols v_high v_wide v_folds v_wrong v_more v_rowOf v_colOf v_below v_face v_worn v_last p1_rows p1_cols p1_high p1_wide p1_folds p1_wrong p1_more p1_rowOf p1_colOf p1_below p1_face p1_worn p1_last) (fun (w_1 : Int32) (w_2 : Int32) (w_3 : Int32) (w_4 : Int32) (w_5 : Int32) (w_6 : Int32) (w_7 : Int32) (w_8 : List Int32) (w_9 : List Int32) (w_10 : List Int32) (w_11 : List Int32) (w_12 : List Int32) (w_13 : List Int32) =>
    mm_bd3 (fX5_forgetLed N w_5 w_6 w_7) (fun (w_15 : Int32) (w_16 : Int32) (w_17 : Int32) =>
    mm_bd6 (fX5_layOut N w_1 w_2 w_3 w_4 w_8 w_9 w_10 w_11) (fun (w_19 : Int32) (w_20 : Int32) (w_21 : List Int32) (w_22 : List Int32) (w_23 : List Int32) (w_24 : List Int32) =>
    some (w_1, w_2, w_19, w_20, w_15, w_16, w_17, w_21, w_22, w_23, w_24, w_12, w_13)))) := rfl

set_option maxHeartbeats 4000000 in
set_option maxRecDepth 20000 in
theorem sf_X5_beginTrial {N : Nat} (hN : 700 ≤ N) {v_rows : Int32} {v_cols : Int32} {v_high : Int32} {v_wide : Int32} {v_folds : Int32} {v_wrong : Int32} {v_more : Int32} {v_rowOf : List Int32} {v_colOf : List Int32} {v_below : List Int32} {v_face : List Int32} {v_worn : List Int32} {v_last : List Int32} {p1_rows : Int32} {p1_cols : Int32} {p1_high : Int32} {p1_wide : Int32} {p1_folds : Int32} {p1_wrong : Int32} {p1_more : Int32} {p1_rowOf : List Int32} {p1_colOf : List Int32} {p1_below : List Int32} {p1_face : List Int32} {p1_worn : List Int32} {p1_last : List Int32} (h_0 : 1 ≤ v_rows.toInt) (h_1 : v_rows.toInt ≤ 4) (h_2 : 1 ≤ v_cols.toInt) (h_3 : v_cols.toInt ≤ 8) (h_4 : 1 ≤ v_high.toInt) (h_5 : v_high.toInt ≤ 4) (h_6 : 1 ≤ v_wide.toInt) (h_7 : v_wide.toInt ≤ 8) (h_8 : v_rowOf.length = 32) (h_9 : v_colOf.length = 32) (h_10 : v_below.length = 32) (h_11 : v_face.length = 32) (h_12 : v_worn.length = 64) (h_13 : v_last.length = 64) (h_14 : 1 ≤ p1_rows.toInt) (h_15 : p1_rows.toInt ≤ 4) (h_16 : 1 ≤ p1_cols.toInt) (h_17 : p1_cols.toInt ≤ 8) (h_18 : 1 ≤ p1_high.toInt) (h_19 : p1_high.toInt ≤ 4) (h_20 : 1 ≤ p1_wide.toInt) (h_21 : p1_wide.toInt ≤ 8) (h_22 : p1_rowOf.length = 32) (h_23 : p1_colOf.length = 32) (h_24 : p1_below.length = 32) (h_25 : p1_face.length = 32) (h_26 : p1_worn.length = 64) (h_27 : p1_last.length = 64) (h_28 : zn p1_rowOf 0 (p1_rows.toInt * p1_cols.toInt) 0 p1_high.toInt) (h_29 : zn p1_colOf 0 (p1_rows.toInt * p1_cols.toInt) 0 p1_wide.toInt) : wp (fX5_beginTrial N v_rows v_cols v_high v_wide v_folds v_wrong v_more v_rowOf v_colOf v_below v_face v_worn v_last p1_rows p1_cols p1_high p1_wide p1_folds p1_wrong p1_more p1_rowOf p1_colOf p1_below p1_face p1_worn p1_last) (cu13 (fun (wv_rows : Int32) (wv_cols : Int32) (wv_high : Int32) (wv_wide : Int32) (wv_folds : Int32) (wv_wrong : Int32) (wv_more : Int32) (wv_rowOf : List Int32) (wv_colOf : List Int32) (wv_below : List Int32) (wv_face : List Int32) (wv_worn : List Int32) (wv_last : List Int32) => 1 ≤ wv_rows.toInt ∧ wv_rows.toInt ≤ 4 ∧ 1 ≤ wv_cols.toInt ∧ wv_cols.toInt ≤ 8 ∧ 1 ≤ wv_high.toInt ∧ wv_high.toInt ≤ 4 ∧ 1 ≤ wv_wide.toInt ∧ wv_wide.toInt ≤ 8 ∧ wv_rowOf.length = 32 ∧ wv_colOf.length = 32 ∧ wv_below.length = 32 ∧ wv_face.length = 32 ∧ wv_worn.length = 64 ∧ wv_last.length = 64 ∧ zn wv_rowOf 0 (wv_rows.toInt * wv_cols.toInt) 0 wv_high.toInt ∧ zn wv_colOf 0 (wv_rows.toInt * wv_cols.toInt) 0 wv_wide.toInt ∧ wv_rows.toInt = p1_rows.toInt ∧ wv_cols.toInt = p1_cols.toInt)) := by
  refine wp_of (uf_X5_beginTrial _ _ _ _ _ _ _ _ _ _ _ _ _ _ _ _ _ _ _ _ _ _ _ _ _ _ _) ?_
  refine wp_bd13 (sf_X5_copy hN h_0 h_1 h_2 h_3 h_4 h_5 h_6 h_7 h_8 h_9 h_10 h_11 h_12 h_13 h_14 h_15 h_16 h_17 h_18 h_19 h_20 h_21 h_22 h_23 h_24 h_25 h_26 h_27 h_28 h_29) (fun w_1 w_2 w_3 w_4 w_5 w_6 w_7 w_8 w_9 w_10 w_11 w_12 w_13 ⟨q_1, q_2, q_3, q_4, q_5, q_6, q_7, q_8, q_9, q_10, q_11, q_12, q_13, q_14, q_15, q_16, q_17, q_18, q_19, q_20⟩ => ?_)
  refine wp_bd3 (sf_X5_forgetLed hN ) (fun w_15 w_16 w_17 _ => ?_)
  refine wp_bd6 (sf_X5_layOut hN q_1 q_2 q_3 q_4 q_5 q_6 q_7 q_8 q_9 q_10 q_11 q_12) (fun w_19 w_20 w_21 w_22 w_23 w_24 ⟨q_21, q_22, q_23, q_24, q_25, q_26, q_27, q_28, q_29, q_30⟩ => ?_)
  exact wp_so13 ⟨q_1, q_2, q_3, q_4, q_21, q_22, q_23, q_24, q_25, q_26, q_27, q_28, q_13, q_14, q_29, q_30, q_17, q_18⟩

theorem uf_X3_append (N : Nat) (x1 : Int32) (x2 : Int32) (v_size : Int32) (v_lines : List Int32) (v_ways : List Int32) : fX3_append N x1 x2 v_size v_lines v_ways = if v_size < (12 : Int32) then
    (mm_ck (mm_inb v_size v_lines.length) (mm_nm (mm_is v_lines v_size x1) (fun (l_3 : List Int32) =>
    mm_ck (mm_inb v_size v_ways.length) (mm_nm (mm_is v_ways v_size x2) (fun (l_5 : List Int32) =>
    mm_nm ((v_size + (1 : Int32))) (fun (y_6 : Int32) =>
    some (true, y_6, l_3, l_5)))))))
    else (some (false, v_size, v_lines, v_ways)) := rfl

set_option maxHeartbeats 4000000 in
set_option maxRecDepth 20000 in
theorem sf_X3_append {N : Nat} (hN : 700 ≤ N) {x1 : Int32} {x2 : Int32} {v_size : Int32} {v_lines : List Int32} {v_ways : List Int32} (h_0 : 0 ≤ v_size.toInt) (h_1 : v_size.toInt ≤ 12) (h_2 : v_lines.length = 12) (h_3 : v_ways.length = 12) : wp (fX3_append N x1 x2 v_size v_lines v_ways) (cu4 (fun (r : Bool) (wv_size : Int32) (wv_lines : List Int32) (wv_ways : List Int32) => 0 ≤ wv_size.toInt ∧ wv_size.toInt ≤ 12 ∧ wv_lines.length = 12 ∧ wv_ways.length = 12)) := by
  refine wp_of (uf_X3_append _ _ _ _ _ _) ?_
  have n_2 : (12 : Int32).toInt = 12 := by decide
  refine wp_if (fun c_1 => ?_) (fun c_1 => ?_)
  ·
    have dc_1 := i_lt c_1
    refine wp_ck (i_inb (by omega) (by omega)) ?_
    refine wp_nm (fun l_3 h_l_3 => ?_)
    have nl_l_3 : l_3.length = 12 := by rw [h_l_3, is_len]; assumption
    refine wp_ck (i_inb (by omega) (by omega)) ?_
    refine wp_nm (fun l_5 h_l_5 => ?_)
    have nl_l_5 : l_5.length = 12 := by rw [h_l_5, is_len]; assumption
    have n_3 : (1 : Int32).toInt = 1 := by decide
    refine wp_nm (fun y_6 h_y_6 => ?_)
    have e_4 := i_addE h_y_6.symm (by omega) (by omega)
    exact wp_so4 ⟨(by omega), (by omega), nl_l_3, nl_l_5⟩
  ·
    have dc_1 := i_nlt c_1
    exact wp_so4 ⟨h_0, h_1, h_2, h_3⟩

theorem uf_X8_isPlannedFold (N : Nat) (x0 : Int64) (x2 : Int64) : fX8_isPlannedFold N x0 x2 = if (lg_cmp x0 (1 : Int64)) < 0 then
    (some (false))
    else (if 0 < (lg_cmp x0 (7 : Int64)) then
    (some (false))
    else (if (lg_cmp x2 (0 : Int64)) < 0 then
    (some (false))
    else (if 0 ≤ (lg_cmp x2 (8 : Int64)) then
    (some (false))
    else (some (true))))) := rfl


theorem lg_neg (a b : Int64) : lg_cmp a b < 0 ↔ a.toInt < b.toInt := by
  unfold lg_cmp
  by_cases h : a > b
  · have : b.toInt < a.toInt := Int64.lt_iff_toInt_lt.mp h
    rw [if_pos h]
    exact ⟨fun k => absurd k (by decide), fun k => absurd k (by omega)⟩
  · rw [if_neg h]
    have n : ¬ b.toInt < a.toInt := fun k => h (Int64.lt_iff_toInt_lt.mpr k)
    by_cases e : a = b
    · rw [if_pos e]
      exact ⟨fun k => absurd k (by decide), fun k => absurd k (by rw [e]; omega)⟩
    · rw [if_neg e]
      have : ¬ a.toInt = b.toInt := fun k => e (Int64.toInt_inj.mp k)
      exact ⟨fun _ => by omega, fun _ => by decide⟩
theorem lg_pos (a b : Int64) : 0 < lg_cmp a b ↔ b.toInt < a.toInt := by
  unfold lg_cmp
  by_cases h : a > b
  · have : b.toInt < a.toInt := Int64.lt_iff_toInt_lt.mp h
    rw [if_pos h]
    exact ⟨fun _ => this, fun _ => by decide⟩
  · rw [if_neg h]
    have n : ¬ b.toInt < a.toInt := fun k => h (Int64.lt_iff_toInt_lt.mpr k)
    by_cases e : a = b
    · rw [if_pos e]
      exact ⟨fun k => absurd k (by decide), fun k => absurd k n⟩
    · rw [if_neg e]
      exact ⟨fun k => absurd k (by decide), fun k => absurd k n⟩


theorem sf_X8_isPlannedFold {N : Nat} (hN : 700 ≤ N) {x0 x2 : Int64} : wp (fX8_isPlannedFold N x0 x2) (fun (r : Bool) => True) := by
  rw [uf_X8_isPlannedFold]
  refine wp_if (fun _ => wp_so1 trivial) (fun _ => ?_)
  refine wp_if (fun _ => wp_so1 trivial) (fun _ => ?_)
  refine wp_if (fun _ => wp_so1 trivial) (fun _ => ?_)
  exact wp_if (fun _ => wp_so1 trivial) (fun _ => wp_so1 trivial)

theorem uf_X3_appendFrom_6 (N : Nat) (n : Nat) (x2 : Int32) (x3 : Int32) (x4 : Int32) (x5 : Int32) (v_size : Int32) (v_lines : List Int32) (v_ways : List Int32) (p1_size : Int32) (p1_items : List Int64) : fX3_appendFrom_6 N (n + 1) x2 x3 x4 x5 v_size v_lines v_ways p1_size p1_items = 
    if x3 ≤ x5 then
    (some (x4, v_size, v_lines, v_ways))
    else (mm_nm ((((x2).toInt64) + ((2 : Int64) * ((x5).toInt64)))) (fun (y_2 : Int64) =>
    if (lg_cmp (y_2 + (1 : Int64)) ((p1_size).toInt64)) < 0 then
    (mm_ck (mm_inb (y_2.toInt32) p1_items.length) (mm_nm ((mm_lg p1_items (y_2.toInt32))) (fun (y_5 : Int64) =>
    mm_ck (mm_inb ((y_2.toInt32) + (1 : Int32)) p1_items.length) (mm_nm ((mm_lg p1_items ((y_2.toInt32) + (1 : Int32)))) (fun (y_7 : Int64) =>
    mm_bd1 (fX8_isPlannedFold N y_5 y_7) (fun (r_8 : Bool) =>
    if r_8 = false then
    (some (x4, v_size, v_lines, v_ways))
    else (mm_bd4 (fX3_append N (y_5.toInt32) (y_7.toInt32) v_size v_lines v_ways) (fun (r_11 : Bool) (w_12 : Int32) (w_13 : List Int32) (w_14 : List Int32) =>
    if r_11 = false then
    (some (x4, w_12, w_13, w_14))
    else (mm_nm (x4 + (1 : Int32)) (fun (y_17 : Int32) =>
    mm_nm (x5 + (1 : Int32)) (fun (y_18 : Int32) =>
    fX3_appendFrom_6 N n x2 x3 y_17 y_18 w_12 w_13 w_14 p1_size p1_items)))))))))))
    else (some (x4, v_size, v_lines, v_ways)))) := rfl

theorem uf_X3_appendFrom (N : Nat) (x2 : Int32) (x3 : Int32) (v_size : Int32) (v_lines : List Int32) (v_ways : List Int32) (p1_size : Int32) (p1_items : List Int64) : fX3_appendFrom N x2 x3 v_size v_lines v_ways p1_size p1_items = fX3_appendFrom_6 N N x2 x3 (0 : Int32) (0 : Int32) v_size v_lines v_ways p1_size p1_items := rfl


theorem j_at {x2 x5 : Int32} (h2 : 0 ≤ x2.toInt) (h5 : 0 ≤ x5.toInt) (h6 : x5.toInt ≤ 12) : (x2.toInt64 + (2 : Int64) * x5.toInt64).toInt = x2.toInt + 2 * x5.toInt := by
  have l := Int32.toInt_lt x2
  have n2 : (2 : Int64).toInt = 2 := by decide
  rw [Int64.toInt_add, Int64.toInt_mul, n2, Int32.toInt_toInt64, Int32.toInt_toInt64]
  rw [Int.bmod_eq_of_le (n := 2 * x5.toInt) (by omega) (by omega), Int.bmod_eq_of_le (by omega) (by omega)]
theorem j_p1 {y : Int64} (h : y.toInt < 4611686018427387904) (h0 : 0 ≤ y.toInt) : (y + (1 : Int64)).toInt = y.toInt + 1 := by
  have n1 : (1 : Int64).toInt = 1 := by decide
  rw [Int64.toInt_add, n1, Int.bmod_eq_of_le (by omega) (by omega)]
theorem j_32 {y : Int64} (h0 : 0 ≤ y.toInt) (h : y.toInt < 1000) : y.toInt32.toInt = y.toInt := by
  rw [Int64.toInt_toInt32, Int.bmod_eq_of_le (by omega) (by omega)]
set_option maxHeartbeats 4000000 in
theorem sf_X3_appendFrom_6 {N : Nat} (hN : 700 ≤ N) : ∀ (n : Nat) (x2 x3 x4 x5 v_size : Int32) (v_lines v_ways : List Int32) (p1_size : Int32) (p1_items : List Int64), 0 ≤ v_size.toInt → v_size.toInt ≤ 12 → v_lines.length = 12 → v_ways.length = 12 → 0 ≤ p1_size.toInt → p1_size.toInt ≤ 60 → p1_items.length = 60 → 0 ≤ x2.toInt → x3.toInt ≤ 12 → 0 ≤ x5.toInt → x5.toInt ≤ 12 → (12 - x5.toInt).toNat < n → wp (fX3_appendFrom_6 N n x2 x3 x4 x5 v_size v_lines v_ways p1_size p1_items) (cu4 (fun (r : Int32) (wv_size : Int32) (wv_lines : List Int32) (wv_ways : List Int32) => 0 ≤ wv_size.toInt ∧ wv_size.toInt ≤ 12 ∧ wv_lines.length = 12 ∧ wv_ways.length = 12)) := by
  intro n
  induction n with
  | zero =>
    intro x2 x3 x4 x5 v_size v_lines v_ways p1_size p1_items h1 h2 h3 h4 h5 h6 h7 h8 h9 h10 h11 hm
    exact absurd hm (by omega)
  | succ n ih =>
    intro x2 x3 x4 x5 v_size v_lines v_ways p1_size p1_items h1 h2 h3 h4 h5 h6 h7 h8 h9 h10 h11 hm
    refine wp_of (uf_X3_appendFrom_6 _ _ _ _ _ _ _ _ _ _ _) ?_
    refine wp_if (fun c => ?_) (fun c => ?_)
    · exact wp_so4 ⟨h1, h2, h3, h4⟩
    · have c := i_nle c
      refine wp_nm (fun y hy => ?_)
      have ey : y.toInt = x2.toInt + 2 * x5.toInt := by rw [hy]; exact j_at h8 h10 h11
      have lx := Int32.toInt_lt x2
      have ey1 := j_p1 (y := y) (by omega) (by omega)
      have es := i_64 p1_size
      refine wp_if (fun d => ?_) (fun d => ?_)
      · have d := (lg_neg _ _).mp d
        have e32 := j_32 (y := y) (by omega) (by omega)
        refine wp_ck (i_inb (by omega) (by omega)) ?_
        refine wp_nm (fun y5 _ => ?_)
        have n1 : (1 : Int32).toInt = 1 := by decide
        generalize hz : y.toInt32 + (1 : Int32) = z
        obtain ⟨k, e1, e2, e3⟩ := i_addY hz
        refine wp_ck (i_inb (by omega) (by omega)) ?_
        refine wp_nm (fun y7 _ => ?_)
        refine wp_bd1 (sf_X8_isPlannedFold hN) (fun r8 _ => ?_)
        refine wp_if (fun _ => ?_) (fun _ => ?_)
        · exact wp_so4 ⟨h1, h2, h3, h4⟩
        · refine wp_bd4 (sf_X3_append hN (by first | assumption | omega) (by first | assumption | omega) (by first | assumption | omega) (by first | assumption | omega)) (fun r11 w12 w13 w14 ⟨q1, q2, q3, q4⟩ => ?_)
          refine wp_if (fun _ => ?_) (fun _ => ?_)
          · exact wp_so4 ⟨by first | assumption | omega, by first | assumption | omega, by first | assumption | omega, by first | assumption | omega⟩
          · refine wp_nm (fun y17 _ => ?_)
            refine wp_nm (fun y18 h18 => ?_)
            obtain ⟨k', f1, f2, f3⟩ := i_addY h18.symm
            exact ih _ _ _ _ _ _ _ _ _ (by first | assumption | omega) (by first | assumption | omega) (by first | assumption | omega) (by first | assumption | omega) h5 h6 h7 h8 h9 (by omega) (by omega) (by omega)
      · exact wp_so4 ⟨h1, h2, h3, h4⟩
theorem sf_X3_appendFrom {N : Nat} (hN : 700 ≤ N) {x2 x3 v_size : Int32} {v_lines v_ways : List Int32} {p1_size : Int32} {p1_items : List Int64} (h_0 : 0 ≤ v_size.toInt) (h_1 : v_size.toInt ≤ 12) (h_2 : v_lines.length = 12) (h_3 : v_ways.length = 12) (h_4 : 0 ≤ p1_size.toInt) (h_5 : p1_size.toInt ≤ 60) (h_6 : p1_items.length = 60) (h_7 : 0 ≤ x2.toInt) (h_8 : x3.toInt ≤ 12) : wp (fX3_appendFrom N x2 x3 v_size v_lines v_ways p1_size p1_items) (cu4 (fun (r : Int32) (wv_size : Int32) (wv_lines : List Int32) (wv_ways : List Int32) => 0 ≤ wv_size.toInt ∧ wv_size.toInt ≤ 12 ∧ wv_lines.length = 12 ∧ wv_ways.length = 12)) := by
  refine wp_of (uf_X3_appendFrom _ _ _ _ _ _ _ _) ?_
  have n0 : (0 : Int32).toInt = 0 := by decide
  exact sf_X3_appendFrom_6 hN _ _ _ _ _ _ _ _ _ _ (by first | assumption | omega) (by first | assumption | omega) (by first | assumption | omega) (by first | assumption | omega) (by first | assumption | omega) (by first | assumption | omega) (by first | assumption | omega) (by first | assumption | omega) (by first | assumption | omega) (by omega) (by omega) (by omega)


theorem nat_x1 (n : Nat) : n ^^^ 1 = 2 * (n / 2) + (1 - n % 2) := by
  have h1 : (n ^^^ 1) / 2 = n / 2 := by rw [Nat.xor_div_two]; exact Nat.xor_zero _
  have h2 : (n ^^^ 1) % 2 = 1 - n % 2 := by
    have := Nat.xor_mod_two_eq_one (a := n) (b := 1)
    omega
  omega
theorem x1_nat (w : Int32) : (w ^^^ (1 : Int32)).toBitVec.toNat = 2 * (w.toBitVec.toNat / 2) + (1 - w.toBitVec.toNat % 2) := by
  rw [Int32.toBitVec_xor, BitVec.toNat_xor]
  exact nat_x1 _
theorem x1_lt4 (w : Int32) : (w ^^^ (1 : Int32)).toInt < 4 ↔ w.toInt < 4 := by
  have e := x1_nat w
  have a1 : (w ^^^ (1 : Int32)).toInt = (w ^^^ (1 : Int32)).toBitVec.toInt := rfl
  have a2 : w.toInt = w.toBitVec.toInt := rfl
  have b := w.toBitVec.isLt
  rw [a1, a2, BitVec.toInt_eq_toNat_cond, BitVec.toInt_eq_toNat_cond, e]
  split <;> split <;> omega

theorem uf_X3_tryFirst_11 (N : Nat) (n : Nat) (x1 : Int32) (x3 : Int32) (x5 : Int32) (v_size : Int32) (v_trial_rows : Int32) (v_trial_cols : Int32) (v_trial_high : Int32) (v_trial_wide : Int32) (v_trial_folds : Int32) (v_trial_wrong : Int32) (v_trial_more : Int32) (v_trial_rowOf : List Int32) (v_trial_colOf : List Int32) (v_trial_below : List Int32) (v_trial_face : List Int32) (v_trial_worn : List Int32) (v_trial_last : List Int32) (v_trial_bend : List Int32) (v_trial_tall : List Int32) (v_lines : List Int32) (v_ways : List Int32) (p2_rows : Int32) (p2_cols : Int32) (p2_high : Int32) (p2_wide : Int32) (p2_folds : Int32) (p2_wrong : Int32) (p2_more : Int32) (p2_rowOf : List Int32) (p2_colOf : List Int32) (p2_below : List Int32) (p2_face : List Int32) (p2_worn : List Int32) (p2_last : List Int32) (p4_stepCount : Int32) (p4_stacked : Int32) (p4_steps : List Int32) (p4_stack : List Int32) : fX3_tryFirst_11 N (n + 1) x1 x3 x5 v_size v_trial_rows v_trial_cols v_trial_high v_trial_wide v_trial_folds v_trial_wrong v_trial_more v_trial_rowOf v_trial_colOf v_trial_below v_trial_face v_trial_worn v_trial_last v_trial_bend v_trial_tall v_lines v_ways p2_rows p2_cols p2_high p2_wide p2_folds p2_wrong p2_more p2_rowOf p2_colOf p2_below p2_face p2_worn p2_last p4_stepCount p4_stacked p4_steps p4_stack = 
    if x1 ≤ x5 then
    (fX3_tryFirst_84 N x1 v_size v_trial_rows v_trial_cols v_trial_high v_trial_wide v_trial_folds v_trial_wrong v_trial_more v_trial_rowOf v_trial_colOf v_trial_below v_trial_face v_trial_worn v_trial_last v_trial_bend v_trial_tall v_lines v_ways p2_rows p2_cols p2_high p2_wide p2_folds p2_wrong p2_more p2_rowOf p2_colOf p2_below p2_face p2_worn p2_last p4_stepCount p4_stacked p4_steps p4_stack)
    else (if v_size ≤ x5 then
    (fX3_tryFirst_84 N x1 v_size v_trial_rows v_trial_cols v_trial_high v_trial_wide v_trial_folds v_trial_wrong v_trial_more v_trial_rowOf v_trial_colOf v_trial_below v_trial_face v_trial_worn v_trial_last v_trial_bend v_trial_tall v_lines v_ways p2_rows p2_cols p2_high p2_wide p2_folds p2_wrong p2_more p2_rowOf p2_colOf p2_below p2_face p2_worn p2_last p4_stepCount p4_stacked p4_steps p4_stack)
    else (mm_ck (mm_inb x5 v_lines.length) (mm_ck (mm_inb x5 v_ways.length) (mm_bd1 (fX5_hasLine N (mm_ig v_lines x5) (mm_ig v_ways x5) v_trial_high v_trial_wide) (fun (r_19 : Bool) =>
    if r_19 = false then
    (some (x5, v_trial_rows, v_trial_cols, v_trial_high, v_trial_wide, v_trial_folds, v_trial_wrong, v_trial_more, v_trial_rowOf, v_trial_colOf, v_trial_below, v_trial_face, v_trial_worn, v_trial_last, v_trial_bend, v_trial_tall, p4_stacked, p4_stack))
    else (mm_ck (mm_inb x5 v_lines.length) (mm_ck (mm_inb x5 v_ways.length) (mm_bd16 (fX5_bendAndTurn N (mm_ig v_lines x5) (mm_ig v_ways x5) x3 v_trial_rows v_trial_cols v_trial_high v_trial_wide v_trial_folds v_trial_wrong v_trial_more v_trial_rowOf v_trial_colOf v_trial_below v_trial_face v_trial_worn v_trial_last v_trial_bend v_trial_tall p4_stepCount p4_stacked p4_steps p4_stack) (fun (r_24 : Int32) (w_25 : Int32) (w_26 : Int32) (w_27 : Int32) (w_28 : Int32) (w_29 : Int32) (w_30 : List Int32) (w_31 : List Int32) (w_32 : List Int32) (w_33 : List Int32) (w_34 : List Int32) (w_35 : List Int32) (w_36 : List Int32) (w_37 : List Int32) (w_38 : Int32) (w_39 : List Int32) =>
    mm_nm (x5 + (1 : Int32)) (fun (y_41 : Int32) =>
    fX3_tryFirst_11 N n x1 x3 y_41 v_size v_trial_rows v_trial_cols w_25 w_26 w_27 w_28 w_29 w_30 w_31 w_32 w_33 w_34 w_35 w_36 w_37 v_lines v_ways p2_rows p2_cols p2_high p2_wide p2_folds p2_wrong p2_more p2_rowOf p2_colOf p2_below p2_face p2_worn p2_last p4_stepCount w_38 p4_steps w_39)))))))))) := rfl

theorem uf_X3_tryFirst_84 (N : Nat) (x1 : Int32) (v_size : Int32) (v_trial_rows : Int32) (v_trial_cols : Int32) (v_trial_high : Int32) (v_trial_wide : Int32) (v_trial_folds : Int32) (v_trial_wrong : Int32) (v_trial_more : Int32) (v_trial_rowOf : List Int32) (v_trial_colOf : List Int32) (v_trial_below : List Int32) (v_trial_face : List Int32) (v_trial_worn : List Int32) (v_trial_last : List Int32) (v_trial_bend : List Int32) (v_trial_tall : List Int32) (v_lines : List Int32) (v_ways : List Int32) (p2_rows : Int32) (p2_cols : Int32) (p2_high : Int32) (p2_wide : Int32) (p2_folds : Int32) (p2_wrong : Int32) (p2_more : Int32) (p2_rowOf : List Int32) (p2_colOf : List Int32) (p2_below : List Int32) (p2_face : List Int32) (p2_worn : List Int32) (p2_last : List Int32) (p4_stepCount : Int32) (p4_stacked : Int32) (p4_steps : List Int32) (p4_stack : List Int32) : fX3_tryFirst_84 N x1 v_size v_trial_rows v_trial_cols v_trial_high v_trial_wide v_trial_folds v_trial_wrong v_trial_more v_trial_rowOf v_trial_colOf v_trial_below v_trial_face v_trial_worn v_trial_last v_trial_bend v_trial_tall v_lines v_ways p2_rows p2_cols p2_high p2_wide p2_folds p2_wrong p2_more p2_rowOf p2_colOf p2_below p2_face p2_worn p2_last p4_stepCount p4_stacked p4_steps p4_stack = some ((mm_min x1 v_size), v_trial_rows, v_trial_cols, v_trial_high, v_trial_wide, v_trial_folds, v_trial_wrong, v_trial_more, v_trial_rowOf, v_trial_colOf, v_trial_below, v_trial_face, v_trial_worn, v_trial_last, v_trial_bend, v_trial_tall, p4_stacked, p4_stack) := rfl

set_option maxHeartbeats 4000000 in
set_option maxRecDepth 20000 in
theorem sf_X3_tryFirst_11 {N : Nat} (hN : 700 ≤ N)  : ∀ (n : Nat) (x1 : Int32) (x3 : Int32) (x5 : Int32) (v_size : Int32) (v_trial_rows : Int32) (v_trial_cols : Int32) (v_trial_high : Int32) (v_trial_wide : Int32) (v_trial_folds : Int32) (v_trial_wrong : Int32) (v_trial_more : Int32) (v_trial_rowOf : List Int32) (v_trial_colOf : List Int32) (v_trial_below : List Int32) (v_trial_face : List Int32) (v_trial_worn : List Int32) (v_trial_last : List Int32) (v_trial_bend : List Int32) (v_trial_tall : List Int32) (v_lines : List Int32) (v_ways : List Int32) (p2_rows : Int32) (p2_cols : Int32) (p2_high : Int32) (p2_wide : Int32) (p2_folds : Int32) (p2_wrong : Int32) (p2_more : Int32) (p2_rowOf : List Int32) (p2_colOf : List Int32) (p2_below : List Int32) (p2_face : List Int32) (p2_worn : List Int32) (p2_last : List Int32) (p4_stepCount : Int32) (p4_stacked : Int32) (p4_steps : List Int32) (p4_stack : List Int32), 0 ≤ v_size.toInt → v_size.toInt ≤ 12 → v_lines.length = 12 → v_ways.length = 12 → 1 ≤ v_trial_rows.toInt → v_trial_rows.toInt ≤ 4 → 1 ≤ v_trial_cols.toInt → v_trial_cols.toInt ≤ 8 → 1 ≤ v_trial_high.toInt → v_trial_high.toInt ≤ 4 → 1 ≤ v_trial_wide.toInt → v_trial_wide.toInt ≤ 8 → v_trial_rowOf.length = 32 → v_trial_colOf.length = 32 → v_trial_below.length = 32 → v_trial_face.length = 32 → v_trial_worn.length = 64 → v_trial_last.length = 64 → v_trial_bend.length = 64 → v_trial_tall.length = 32 → zn v_trial_rowOf 0 (v_trial_rows.toInt * v_trial_cols.toInt) 0 v_trial_high.toInt → zn v_trial_colOf 0 (v_trial_rows.toInt * v_trial_cols.toInt) 0 v_trial_wide.toInt → 1 ≤ p2_rows.toInt → p2_rows.toInt ≤ 4 → 1 ≤ p2_cols.toInt → p2_cols.toInt ≤ 8 → 1 ≤ p2_high.toInt → p2_high.toInt ≤ 4 → 1 ≤ p2_wide.toInt → p2_wide.toInt ≤ 8 → p2_rowOf.length = 32 → p2_colOf.length = 32 → p2_below.length = 32 → p2_face.length = 32 → p2_worn.length = 64 → p2_last.length = 64 → zn p2_rowOf 0 (p2_rows.toInt * p2_cols.toInt) 0 p2_high.toInt → zn p2_colOf 0 (p2_rows.toInt * p2_cols.toInt) 0 p2_wide.toInt → 0 ≤ p4_stepCount.toInt → p4_stepCount.toInt ≤ 121 → p4_steps.length = 121 → p4_stack.length = 121 → 0 ≤ x5.toInt → x5.toInt ≤ 12 → (13 - x5.toInt).toNat < n → wp (fX3_tryFirst_11 N n x1 x3 x5 v_size v_trial_rows v_trial_cols v_trial_high v_trial_wide v_trial_folds v_trial_wrong v_trial_more v_trial_rowOf v_trial_colOf v_trial_below v_trial_face v_trial_worn v_trial_last v_trial_bend v_trial_tall v_lines v_ways p2_rows p2_cols p2_high p2_wide p2_folds p2_wrong p2_more p2_rowOf p2_colOf p2_below p2_face p2_worn p2_last p4_stepCount p4_stacked p4_steps p4_stack) (cu18 (fun (r : Int32) (wv_trial_rows : Int32) (wv_trial_cols : Int32) (wv_trial_high : Int32) (wv_trial_wide : Int32) (wv_trial_folds : Int32) (wv_trial_wrong : Int32) (wv_trial_more : Int32) (wv_trial_rowOf : List Int32) (wv_trial_colOf : List Int32) (wv_trial_below : List Int32) (wv_trial_face : List Int32) (wv_trial_worn : List Int32) (wv_trial_last : List Int32) (wv_trial_bend : List Int32) (wv_trial_tall : List Int32) (wp4_stacked : Int32) (wp4_stack : List Int32) => 1 ≤ wv_trial_rows.toInt ∧ wv_trial_rows.toInt ≤ 4 ∧ 1 ≤ wv_trial_cols.toInt ∧ wv_trial_cols.toInt ≤ 8 ∧ 1 ≤ wv_trial_high.toInt ∧ wv_trial_high.toInt ≤ 4 ∧ 1 ≤ wv_trial_wide.toInt ∧ wv_trial_wide.toInt ≤ 8 ∧ wv_trial_rowOf.length = 32 ∧ wv_trial_colOf.length = 32 ∧ wv_trial_below.length = 32 ∧ wv_trial_face.length = 32 ∧ wv_trial_worn.length = 64 ∧ wv_trial_last.length = 64 ∧ wv_trial_bend.length = 64 ∧ wv_trial_tall.length = 32 ∧ zn wv_trial_rowOf 0 (wv_trial_rows.toInt * wv_trial_cols.toInt) 0 wv_trial_high.toInt ∧ zn wv_trial_colOf 0 (wv_trial_rows.toInt * wv_trial_cols.toInt) 0 wv_trial_wide.toInt ∧ wp4_stack.length = 121)) := by
  intro n
  induction n with
  | zero =>
    intro x1 x3 x5 v_size v_trial_rows v_trial_cols v_trial_high v_trial_wide v_trial_folds v_trial_wrong v_trial_more v_trial_rowOf v_trial_colOf v_trial_below v_trial_face v_trial_worn v_trial_last v_trial_bend v_trial_tall v_lines v_ways p2_rows p2_cols p2_high p2_wide p2_folds p2_wrong p2_more p2_rowOf p2_colOf p2_below p2_face p2_worn p2_last p4_stepCount p4_stacked p4_steps p4_stack h_0 h_1 h_2 h_3 h_4 h_5 h_6 h_7 h_8 h_9 h_10 h_11 h_12 h_13 h_14 h_15 h_16 h_17 h_18 h_19 h_20 h_21 h_22 h_23 h_24 h_25 h_26 h_27 h_28 h_29 h_30 h_31 h_32 h_33 h_34 h_35 h_36 h_37 h_38 h_39 h_40 h_41 h_42 h_43 hm
    exact absurd hm (by omega)
  | succ n ih =>
    intro x1 x3 x5 v_size v_trial_rows v_trial_cols v_trial_high v_trial_wide v_trial_folds v_trial_wrong v_trial_more v_trial_rowOf v_trial_colOf v_trial_below v_trial_face v_trial_worn v_trial_last v_trial_bend v_trial_tall v_lines v_ways p2_rows p2_cols p2_high p2_wide p2_folds p2_wrong p2_more p2_rowOf p2_colOf p2_below p2_face p2_worn p2_last p4_stepCount p4_stacked p4_steps p4_stack h_0 h_1 h_2 h_3 h_4 h_5 h_6 h_7 h_8 h_9 h_10 h_11 h_12 h_13 h_14 h_15 h_16 h_17 h_18 h_19 h_20 h_21 h_22 h_23 h_24 h_25 h_26 h_27 h_28 h_29 h_30 h_31 h_32 h_33 h_34 h_35 h_36 h_37 h_38 h_39 h_40 h_41 h_42 h_43 hm
    refine wp_of (uf_X3_tryFirst_11 _ _ _ _ _ _ _ _ _ _ _ _ _ _ _ _ _ _ _ _ _ _ _ _ _ _ _ _ _ _ _ _ _ _ _ _ _ _ _ _) ?_
    refine wp_if (fun c_1 => ?_) (fun c_1 => ?_)
    ·
      have dc_1 := i_le c_1
      refine wp_of (uf_X3_tryFirst_84 _ _ _ _ _ _ _ _ _ _ _ _ _ _ _ _ _ _ _ _ _ _ _ _ _ _ _ _ _ _ _ _ _ _ _ _ _) ?_
      exact wp_so18 ⟨h_4, h_5, h_6, h_7, h_8, h_9, h_10, h_11, h_12, h_13, h_14, h_15, h_16, h_17, h_18, h_19, h_20, h_21, h_41⟩
    ·
      have dc_1 := i_nle c_1
      refine wp_if (fun c_2 => ?_) (fun c_2 => ?_)
      ·
        have dc_2 := i_le c_2
        refine wp_of (uf_X3_tryFirst_84 _ _ _ _ _ _ _ _ _ _ _ _ _ _ _ _ _ _ _ _ _ _ _ _ _ _ _ _ _ _ _ _ _ _ _ _ _) ?_
        exact wp_so18 ⟨h_4, h_5, h_6, h_7, h_8, h_9, h_10, h_11, h_12, h_13, h_14, h_15, h_16, h_17, h_18, h_19, h_20, h_21, h_41⟩
      ·
        have dc_2 := i_nle c_2
        refine wp_ck (i_inb (by omega) (by omega)) ?_
        refine wp_ck (i_inb (by omega) (by omega)) ?_
        refine wp_bd1 (sf_X5_hasLine hN h_8 h_9 h_10 h_11) (fun r_19 q_3 => ?_)
        rcases q_3 with ⟨rfl, q_3⟩ | ⟨rfl, q_3⟩
        ·
          refine wp_ifn (by decide) ?_
          refine wp_ck (i_inb (by omega) (by omega)) ?_
          refine wp_ck (i_inb (by omega) (by omega)) ?_
          refine wp_bd16 (sf_X5_bendAndTurn hN h_4 h_5 h_6 h_7 h_8 h_9 h_10 h_11 h_12 h_13 h_14 h_15 h_16 h_17 h_18 h_19 h_20 h_21 h_38 h_39 h_40 h_41 (by omega) (by omega) (by omega)) (fun r_24 w_25 w_26 w_27 w_28 w_29 w_30 w_31 w_32 w_33 w_34 w_35 w_36 w_37 w_38 w_39 ⟨q_4, q_5, q_6, q_7, q_8, q_9, q_10, q_11, q_12, q_13, q_14, q_15, q_16, q_17, q_18⟩ => ?_)
          have n_19 : (1 : Int32).toInt = 1 := by decide
          refine wp_nm (fun y_41 h_y_41 => ?_)
          have e_20 := i_addE h_y_41.symm (by omega) (by omega)
          exact ih _ _ _ _ _ _ _ _ _ _ _ _ _ _ _ _ _ _ _ _ _ _ _ _ _ _ _ _ _ _ _ _ _ _ _ _ _ _ h_0 h_1 h_2 h_3 h_4 h_5 h_6 h_7 q_4 q_5 q_6 q_7 q_8 q_9 q_10 q_11 q_12 q_13 q_14 q_15 q_16 q_17 h_22 h_23 h_24 h_25 h_26 h_27 h_28 h_29 h_30 h_31 h_32 h_33 h_34 h_35 h_36 h_37 h_38 h_39 h_40 q_18 (by omega) (by omega) (by omega)
        ·
          refine wp_ifp (by decide) ?_
          exact wp_so18 ⟨h_4, h_5, h_6, h_7, h_8, h_9, h_10, h_11, h_12, h_13, h_14, h_15, h_16, h_17, h_18, h_19, h_20, h_21, h_41⟩

theorem uf_X3_tryFirst (N : Nat) (x1 : Int32) (x3 : Int32) (v_size : Int32) (v_trial_rows : Int32) (v_trial_cols : Int32) (v_trial_high : Int32) (v_trial_wide : Int32) (v_trial_folds : Int32) (v_trial_wrong : Int32) (v_trial_more : Int32) (v_trial_rowOf : List Int32) (v_trial_colOf : List Int32) (v_trial_below : List Int32) (v_trial_face : List Int32) (v_trial_worn : List Int32) (v_trial_last : List Int32) (v_trial_bend : List Int32) (v_trial_tall : List Int32) (v_lines : List Int32) (v_ways : List Int32) (p2_rows : Int32) (p2_cols : Int32) (p2_high : Int32) (p2_wide : Int32) (p2_folds : Int32) (p2_wrong : Int32) (p2_more : Int32) (p2_rowOf : List Int32) (p2_colOf : List Int32) (p2_below : List Int32) (p2_face : List Int32) (p2_worn : List Int32) (p2_last : List Int32) (p4_stepCount : Int32) (p4_stacked : Int32) (p4_steps : List Int32) (p4_stack : List Int32) : fX3_tryFirst N x1 x3 v_size v_trial_rows v_trial_cols v_trial_high v_trial_wide v_trial_folds v_trial_wrong v_trial_more v_trial_rowOf v_trial_colOf v_trial_below v_trial_face v_trial_worn v_trial_last v_trial_bend v_trial_tall v_lines v_ways p2_rows p2_cols p2_high p2_wide p2_folds p2_wrong p2_more p2_rowOf p2_colOf p2_below p2_face p2_worn p2_last p4_stepCount p4_stacked p4_steps p4_stack = mm_bd13 (fX5_beginTrial N v_trial_rows v_trial_cols v_trial_high v_trial_wide v_trial_folds v_trial_wrong v_trial_more v_trial_rowOf v_trial_colOf v_trial_below v_trial_face v_trial_worn v_trial_last p2_rows p2_cols p2_high p2_wide p2_folds p2_wrong p2_more p2_rowOf p2_colOf p2_below p2_face p2_worn p2_last) (fun (w_1 : Int32) (w_2 : Int32) (w_3 : Int32) (w_4 : Int32) (w_5 : Int32) (w_6 : Int32) (w_7 : Int32) (w_8 : List Int32) (w_9 : List Int32) (w_10 : List Int32) (w_11 : List Int32) (w_12 : List Int32) (w_13 : List Int32) =>
    fX3_tryFirst_11 N N x1 x3 (0 : Int32) v_size w_1 w_2 w_3 w_4 w_5 w_6 w_7 w_8 w_9 w_10 w_11 w_12 w_13 v_trial_bend v_trial_tall v_lines v_ways p2_rows p2_cols p2_high p2_wide p2_folds p2_wrong p2_more p2_rowOf p2_colOf p2_below p2_face p2_worn p2_last p4_stepCount p4_stacked p4_steps p4_stack) := rfl

set_option maxHeartbeats 4000000 in
set_option maxRecDepth 20000 in
theorem sf_X3_tryFirst {N : Nat} (hN : 700 ≤ N) {x1 : Int32} {x3 : Int32} {v_size : Int32} {v_trial_rows : Int32} {v_trial_cols : Int32} {v_trial_high : Int32} {v_trial_wide : Int32} {v_trial_folds : Int32} {v_trial_wrong : Int32} {v_trial_more : Int32} {v_trial_rowOf : List Int32} {v_trial_colOf : List Int32} {v_trial_below : List Int32} {v_trial_face : List Int32} {v_trial_worn : List Int32} {v_trial_last : List Int32} {v_trial_bend : List Int32} {v_trial_tall : List Int32} {v_lines : List Int32} {v_ways : List Int32} {p2_rows : Int32} {p2_cols : Int32} {p2_high : Int32} {p2_wide : Int32} {p2_folds : Int32} {p2_wrong : Int32} {p2_more : Int32} {p2_rowOf : List Int32} {p2_colOf : List Int32} {p2_below : List Int32} {p2_face : List Int32} {p2_worn : List Int32} {p2_last : List Int32} {p4_stepCount : Int32} {p4_stacked : Int32} {p4_steps : List Int32} {p4_stack : List Int32} (h_0 : 0 ≤ v_size.toInt) (h_1 : v_size.toInt ≤ 12) (h_2 : v_lines.length = 12) (h_3 : v_ways.length = 12) (h_4 : 1 ≤ v_trial_rows.toInt) (h_5 : v_trial_rows.toInt ≤ 4) (h_6 : 1 ≤ v_trial_cols.toInt) (h_7 : v_trial_cols.toInt ≤ 8) (h_8 : 1 ≤ v_trial_high.toInt) (h_9 : v_trial_high.toInt ≤ 4) (h_10 : 1 ≤ v_trial_wide.toInt) (h_11 : v_trial_wide.toInt ≤ 8) (h_12 : v_trial_rowOf.length = 32) (h_13 : v_trial_colOf.length = 32) (h_14 : v_trial_below.length = 32) (h_15 : v_trial_face.length = 32) (h_16 : v_trial_worn.length = 64) (h_17 : v_trial_last.length = 64) (h_18 : v_trial_bend.length = 64) (h_19 : v_trial_tall.length = 32) (h_20 : 1 ≤ p2_rows.toInt) (h_21 : p2_rows.toInt ≤ 4) (h_22 : 1 ≤ p2_cols.toInt) (h_23 : p2_cols.toInt ≤ 8) (h_24 : 1 ≤ p2_high.toInt) (h_25 : p2_high.toInt ≤ 4) (h_26 : 1 ≤ p2_wide.toInt) (h_27 : p2_wide.toInt ≤ 8) (h_28 : p2_rowOf.length = 32) (h_29 : p2_colOf.length = 32) (h_30 : p2_below.length = 32) (h_31 : p2_face.length = 32) (h_32 : p2_worn.length = 64) (h_33 : p2_last.length = 64) (h_34 : zn p2_rowOf 0 (p2_rows.toInt * p2_cols.toInt) 0 p2_high.toInt) (h_35 : zn p2_colOf 0 (p2_rows.toInt * p2_cols.toInt) 0 p2_wide.toInt) (h_36 : 0 ≤ p4_stepCount.toInt) (h_37 : p4_stepCount.toInt ≤ 121) (h_38 : p4_steps.length = 121) (h_39 : p4_stack.length = 121) : wp (fX3_tryFirst N x1 x3 v_size v_trial_rows v_trial_cols v_trial_high v_trial_wide v_trial_folds v_trial_wrong v_trial_more v_trial_rowOf v_trial_colOf v_trial_below v_trial_face v_trial_worn v_trial_last v_trial_bend v_trial_tall v_lines v_ways p2_rows p2_cols p2_high p2_wide p2_folds p2_wrong p2_more p2_rowOf p2_colOf p2_below p2_face p2_worn p2_last p4_stepCount p4_stacked p4_steps p4_stack) (cu18 (fun (r : Int32) (wv_trial_rows : Int32) (wv_trial_cols : Int32) (wv_trial_high : Int32) (wv_trial_wide : Int32) (wv_trial_folds : Int32) (wv_trial_wrong : Int32) (wv_trial_more : Int32) (wv_trial_rowOf : List Int32) (wv_trial_colOf : List Int32) (wv_trial_below : List Int32) (wv_trial_face : List Int32) (wv_trial_worn : List Int32) (wv_trial_last : List Int32) (wv_trial_bend : List Int32) (wv_trial_tall : List Int32) (wp4_stacked : Int32) (wp4_stack : List Int32) => 1 ≤ wv_trial_rows.toInt ∧ wv_trial_rows.toInt ≤ 4 ∧ 1 ≤ wv_trial_cols.toInt ∧ wv_trial_cols.toInt ≤ 8 ∧ 1 ≤ wv_trial_high.toInt ∧ wv_trial_high.toInt ≤ 4 ∧ 1 ≤ wv_trial_wide.toInt ∧ wv_trial_wide.toInt ≤ 8 ∧ wv_trial_rowOf.length = 32 ∧ wv_trial_colOf.length = 32 ∧ wv_trial_below.length = 32 ∧ wv_trial_face.length = 32 ∧ wv_trial_worn.length = 64 ∧ wv_trial_last.length = 64 ∧ wv_trial_bend.length = 64 ∧ wv_trial_tall.length = 32 ∧ zn wv_trial_rowOf 0 (wv_trial_rows.toInt * wv_trial_cols.toInt) 0 wv_trial_high.toInt ∧ zn wv_trial_colOf 0 (wv_trial_rows.toInt * wv_trial_cols.toInt) 0 wv_trial_wide.toInt ∧ wp4_stack.length = 121)) := by
  refine wp_of (uf_X3_tryFirst _ _ _ _ _ _ _ _ _ _ _ _ _ _ _ _ _ _ _ _ _ _ _ _ _ _ _ _ _ _ _ _ _ _ _ _ _ _) ?_
  refine wp_bd13 (sf_X5_beginTrial hN h_4 h_5 h_6 h_7 h_8 h_9 h_10 h_11 h_12 h_13 h_14 h_15 h_16 h_17 h_20 h_21 h_22 h_23 h_24 h_25 h_26 h_27 h_28 h_29 h_30 h_31 h_32 h_33 h_34 h_35) (fun w_1 w_2 w_3 w_4 w_5 w_6 w_7 w_8 w_9 w_10 w_11 w_12 w_13 ⟨q_1, q_2, q_3, q_4, q_5, q_6, q_7, q_8, q_9, q_10, q_11, q_12, q_13, q_14, q_15, q_16, q_17, q_18⟩ => ?_)
  have n_19 : (0 : Int32).toInt = 0 := by decide
  exact sf_X3_tryFirst_11 hN _ _ _ _ _ _ _ _ _ _ _ _ _ _ _ _ _ _ _ _ _ _ _ _ _ _ _ _ _ _ _ _ _ _ _ _ _ _ _ h_0 h_1 h_2 h_3 q_1 q_2 q_3 q_4 q_5 q_6 q_7 q_8 q_9 q_10 q_11 q_12 q_13 q_14 h_18 h_19 q_15 q_16 h_20 h_21 h_22 h_23 h_24 h_25 h_26 h_27 h_28 h_29 h_30 h_31 h_32 h_33 h_34 h_35 h_36 h_37 h_38 h_39 (by omega) (by omega) (by omega)

theorem uf_X3_tryInWind_15 (N : Nat) (n : Nat) (x2 : Int32) (x5 : Int32) (x6 : Int32) (x7 : Int32) (v_size : Int32) (v_trial_rows : Int32) (v_trial_cols : Int32) (v_trial_high : Int32) (v_trial_wide : Int32) (v_trial_folds : Int32) (v_trial_wrong : Int32) (v_trial_more : Int32) (v_trial_rowOf : List Int32) (v_trial_colOf : List Int32) (v_trial_below : List Int32) (v_trial_face : List Int32) (v_trial_worn : List Int32) (v_trial_last : List Int32) (v_trial_bend : List Int32) (v_trial_tall : List Int32) (v_lines : List Int32) (v_ways : List Int32) (p1_rows : Int32) (p1_cols : Int32) (p1_high : Int32) (p1_wide : Int32) (p1_folds : Int32) (p1_wrong : Int32) (p1_more : Int32) (p1_rowOf : List Int32) (p1_colOf : List Int32) (p1_below : List Int32) (p1_face : List Int32) (p1_worn : List Int32) (p1_last : List Int32) (p3_stepCount : Int32) (p3_stacked : Int32) (p3_steps : List Int32) (p3_stack : List Int32) : fX3_tryInWind_15 N (n + 1) x2 x5 x6 x7 v_size v_trial_rows v_trial_cols v_trial_high v_trial_wide v_trial_folds v_trial_wrong v_trial_more v_trial_rowOf v_trial_colOf v_trial_below v_trial_face v_trial_worn v_trial_last v_trial_bend v_trial_tall v_lines v_ways p1_rows p1_cols p1_high p1_wide p1_folds p1_wrong p1_more p1_rowOf p1_colOf p1_below p1_face p1_worn p1_last p3_stepCount p3_stacked p3_steps p3_stack = 
    if v_size ≤ x7 then
    (some (x6, v_trial_rows, v_trial_cols, v_trial_high, v_trial_wide, v_trial_folds, v_trial_wrong, v_trial_more, v_trial_rowOf, v_trial_colOf, v_trial_below, v_trial_face, v_trial_worn, v_trial_last, v_trial_bend, v_trial_tall, p3_stacked, p3_stack))
    else (mm_ck (mm_inb x7 v_lines.length) (mm_ck (mm_inb x7 v_ways.length) (mm_bd1 (fX5_hasLine N (mm_ig v_lines x7) (mm_ig v_ways x7) v_trial_high v_trial_wide) (fun (r_18 : Bool) =>
    if r_18 = false then
    (some (x6, v_trial_rows, v_trial_cols, v_trial_high, v_trial_wide, v_trial_folds, v_trial_wrong, v_trial_more, v_trial_rowOf, v_trial_colOf, v_trial_below, v_trial_face, v_trial_worn, v_trial_last, v_trial_bend, v_trial_tall, p3_stacked, p3_stack))
    else (mm_nm (((x6 * (1103515245 : Int32)) + (12345 : Int32))) (fun (y_21 : Int32) =>
    mm_ck (mm_nz (100 : Int32)) (if x5 ≤ (mm_rem ((y_21.toUInt32 >>> ((8 : Int32).toUInt32 &&& Int32.toUInt32 31)).toInt32) (100 : Int32)) then
    (mm_ck (mm_inb x7 v_ways.length) (fX3_tryInWind_91 N (fX3_tryInWind_15 N n) x2 x5 y_21 x7 (mm_ig v_ways x7) v_size v_trial_rows v_trial_cols v_trial_high v_trial_wide v_trial_folds v_trial_wrong v_trial_more v_trial_rowOf v_trial_colOf v_trial_below v_trial_face v_trial_worn v_trial_last v_trial_bend v_trial_tall v_lines v_ways p1_rows p1_cols p1_high p1_wide p1_folds p1_wrong p1_more p1_rowOf p1_colOf p1_below p1_face p1_worn p1_last p3_stepCount p3_stacked p3_steps p3_stack))
    else (mm_ck (mm_inb x7 v_ways.length) (fX3_tryInWind_91 N (fX3_tryInWind_15 N n) x2 x5 y_21 x7 ((mm_ig v_ways x7) ^^^ (1 : Int32)) v_size v_trial_rows v_trial_cols v_trial_high v_trial_wide v_trial_folds v_trial_wrong v_trial_more v_trial_rowOf v_trial_colOf v_trial_below v_trial_face v_trial_worn v_trial_last v_trial_bend v_trial_tall v_lines v_ways p1_rows p1_cols p1_high p1_wide p1_folds p1_wrong p1_more p1_rowOf p1_colOf p1_below p1_face p1_worn p1_last p3_stepCount p3_stacked p3_steps p3_stack))))))))) := rfl

theorem uf_X3_tryInWind_91 (N : Nat) (k_15 : Int32 → Int32 → Int32 → Int32 → Int32 → Int32 → Int32 → Int32 → Int32 → Int32 → Int32 → Int32 → List Int32 → List Int32 → List Int32 → List Int32 → List Int32 → List Int32 → List Int32 → List Int32 → List Int32 → List Int32 → Int32 → Int32 → Int32 → Int32 → Int32 → Int32 → Int32 → List Int32 → List Int32 → List Int32 → List Int32 → List Int32 → List Int32 → Int32 → Int32 → List Int32 → List Int32 → Option (Int32 × Int32 × Int32 × Int32 × Int32 × Int32 × Int32 × Int32 × List Int32 × List Int32 × List Int32 × List Int32 × List Int32 × List Int32 × List Int32 × List Int32 × Int32 × List Int32)) (x2 : Int32) (x5 : Int32) (x6 : Int32) (x7 : Int32) (s0 : Int32) (v_size : Int32) (v_trial_rows : Int32) (v_trial_cols : Int32) (v_trial_high : Int32) (v_trial_wide : Int32) (v_trial_folds : Int32) (v_trial_wrong : Int32) (v_trial_more : Int32) (v_trial_rowOf : List Int32) (v_trial_colOf : List Int32) (v_trial_below : List Int32) (v_trial_face : List Int32) (v_trial_worn : List Int32) (v_trial_last : List Int32) (v_trial_bend : List Int32) (v_trial_tall : List Int32) (v_lines : List Int32) (v_ways : List Int32) (p1_rows : Int32) (p1_cols : Int32) (p1_high : Int32) (p1_wide : Int32) (p1_folds : Int32) (p1_wrong : Int32) (p1_more : Int32) (p1_rowOf : List Int32) (p1_colOf : List Int32) (p1_below : List Int32) (p1_face : List Int32) (p1_worn : List Int32) (p1_last : List Int32) (p3_stepCount : Int32) (p3_stacked : Int32) (p3_steps : List Int32) (p3_stack : List Int32) : fX3_tryInWind_91 N k_15 x2 x5 x6 x7 s0 v_size v_trial_rows v_trial_cols v_trial_high v_trial_wide v_trial_folds v_trial_wrong v_trial_more v_trial_rowOf v_trial_colOf v_trial_below v_trial_face v_trial_worn v_trial_last v_trial_bend v_trial_tall v_lines v_ways p1_rows p1_cols p1_high p1_wide p1_folds p1_wrong p1_more p1_rowOf p1_colOf p1_below p1_face p1_worn p1_last p3_stepCount p3_stacked p3_steps p3_stack = mm_ck (mm_inb x7 v_lines.length) (mm_bd16 (fX5_bendAndTurn N (mm_ig v_lines x7) s0 x2 v_trial_rows v_trial_cols v_trial_high v_trial_wide v_trial_folds v_trial_wrong v_trial_more v_trial_rowOf v_trial_colOf v_trial_below v_trial_face v_trial_worn v_trial_last v_trial_bend v_trial_tall p3_stepCount p3_stacked p3_steps p3_stack) (fun (r_27 : Int32) (w_28 : Int32) (w_29 : Int32) (w_30 : Int32) (w_31 : Int32) (w_32 : Int32) (w_33 : List Int32) (w_34 : List Int32) (w_35 : List Int32) (w_36 : List Int32) (w_37 : List Int32) (w_38 : List Int32) (w_39 : List Int32) (w_40 : List Int32) (w_41 : Int32) (w_42 : List Int32) =>
    mm_nm (x7 + (1 : Int32)) (fun (y_44 : Int32) =>
    k_15 x2 x5 x6 y_44 v_size v_trial_rows v_trial_cols w_28 w_29 w_30 w_31 w_32 w_33 w_34 w_35 w_36 w_37 w_38 w_39 w_40 v_lines v_ways p1_rows p1_cols p1_high p1_wide p1_folds p1_wrong p1_more p1_rowOf p1_colOf p1_below p1_face p1_worn p1_last p3_stepCount w_41 p3_steps w_42))) := rfl

set_option maxHeartbeats 4000000 in
set_option maxRecDepth 20000 in
theorem sf_X3_tryInWind_15 {N : Nat} (hN : 700 ≤ N)  : ∀ (n : Nat) (x2 : Int32) (x5 : Int32) (x6 : Int32) (x7 : Int32) (v_size : Int32) (v_trial_rows : Int32) (v_trial_cols : Int32) (v_trial_high : Int32) (v_trial_wide : Int32) (v_trial_folds : Int32) (v_trial_wrong : Int32) (v_trial_more : Int32) (v_trial_rowOf : List Int32) (v_trial_colOf : List Int32) (v_trial_below : List Int32) (v_trial_face : List Int32) (v_trial_worn : List Int32) (v_trial_last : List Int32) (v_trial_bend : List Int32) (v_trial_tall : List Int32) (v_lines : List Int32) (v_ways : List Int32) (p1_rows : Int32) (p1_cols : Int32) (p1_high : Int32) (p1_wide : Int32) (p1_folds : Int32) (p1_wrong : Int32) (p1_more : Int32) (p1_rowOf : List Int32) (p1_colOf : List Int32) (p1_below : List Int32) (p1_face : List Int32) (p1_worn : List Int32) (p1_last : List Int32) (p3_stepCount : Int32) (p3_stacked : Int32) (p3_steps : List Int32) (p3_stack : List Int32), 0 ≤ v_size.toInt → v_size.toInt ≤ 12 → v_lines.length = 12 → v_ways.length = 12 → 1 ≤ v_trial_rows.toInt → v_trial_rows.toInt ≤ 4 → 1 ≤ v_trial_cols.toInt → v_trial_cols.toInt ≤ 8 → 1 ≤ v_trial_high.toInt → v_trial_high.toInt ≤ 4 → 1 ≤ v_trial_wide.toInt → v_trial_wide.toInt ≤ 8 → v_trial_rowOf.length = 32 → v_trial_colOf.length = 32 → v_trial_below.length = 32 → v_trial_face.length = 32 → v_trial_worn.length = 64 → v_trial_last.length = 64 → v_trial_bend.length = 64 → v_trial_tall.length = 32 → zn v_trial_rowOf 0 (v_trial_rows.toInt * v_trial_cols.toInt) 0 v_trial_high.toInt → zn v_trial_colOf 0 (v_trial_rows.toInt * v_trial_cols.toInt) 0 v_trial_wide.toInt → 1 ≤ p1_rows.toInt → p1_rows.toInt ≤ 4 → 1 ≤ p1_cols.toInt → p1_cols.toInt ≤ 8 → 1 ≤ p1_high.toInt → p1_high.toInt ≤ 4 → 1 ≤ p1_wide.toInt → p1_wide.toInt ≤ 8 → p1_rowOf.length = 32 → p1_colOf.length = 32 → p1_below.length = 32 → p1_face.length = 32 → p1_worn.length = 64 → p1_last.length = 64 → zn p1_rowOf 0 (p1_rows.toInt * p1_cols.toInt) 0 p1_high.toInt → zn p1_colOf 0 (p1_rows.toInt * p1_cols.toInt) 0 p1_wide.toInt → 0 ≤ p3_stepCount.toInt → p3_stepCount.toInt ≤ 121 → p3_steps.length = 121 → p3_stack.length = 121 → 0 ≤ x7.toInt → x7.toInt ≤ 12 → (13 - x7.toInt).toNat < n → wp (fX3_tryInWind_15 N n x2 x5 x6 x7 v_size v_trial_rows v_trial_cols v_trial_high v_trial_wide v_trial_folds v_trial_wrong v_trial_more v_trial_rowOf v_trial_colOf v_trial_below v_trial_face v_trial_worn v_trial_last v_trial_bend v_trial_tall v_lines v_ways p1_rows p1_cols p1_high p1_wide p1_folds p1_wrong p1_more p1_rowOf p1_colOf p1_below p1_face p1_worn p1_last p3_stepCount p3_stacked p3_steps p3_stack) (cu18 (fun (r : Int32) (wv_trial_rows : Int32) (wv_trial_cols : Int32) (wv_trial_high : Int32) (wv_trial_wide : Int32) (wv_trial_folds : Int32) (wv_trial_wrong : Int32) (wv_trial_more : Int32) (wv_trial_rowOf : List Int32) (wv_trial_colOf : List Int32) (wv_trial_below : List Int32) (wv_trial_face : List Int32) (wv_trial_worn : List Int32) (wv_trial_last : List Int32) (wv_trial_bend : List Int32) (wv_trial_tall : List Int32) (wp3_stacked : Int32) (wp3_stack : List Int32) => 1 ≤ wv_trial_rows.toInt ∧ wv_trial_rows.toInt ≤ 4 ∧ 1 ≤ wv_trial_cols.toInt ∧ wv_trial_cols.toInt ≤ 8 ∧ 1 ≤ wv_trial_high.toInt ∧ wv_trial_high.toInt ≤ 4 ∧ 1 ≤ wv_trial_wide.toInt ∧ wv_trial_wide.toInt ≤ 8 ∧ wv_trial_rowOf.length = 32 ∧ wv_trial_colOf.length = 32 ∧ wv_trial_below.length = 32 ∧ wv_trial_face.length = 32 ∧ wv_trial_worn.length = 64 ∧ wv_trial_last.length = 64 ∧ wv_trial_bend.length = 64 ∧ wv_trial_tall.length = 32 ∧ zn wv_trial_rowOf 0 (wv_trial_rows.toInt * wv_trial_cols.toInt) 0 wv_trial_high.toInt ∧ zn wv_trial_colOf 0 (wv_trial_rows.toInt * wv_trial_cols.toInt) 0 wv_trial_wide.toInt ∧ wp3_stack.length = 121)) := by
  intro n
  induction n with
  | zero =>
    intro x2 x5 x6 x7 v_size v_trial_rows v_trial_cols v_trial_high v_trial_wide v_trial_folds v_trial_wrong v_trial_more v_trial_rowOf v_trial_colOf v_trial_below v_trial_face v_trial_worn v_trial_last v_trial_bend v_trial_tall v_lines v_ways p1_rows p1_cols p1_high p1_wide p1_folds p1_wrong p1_more p1_rowOf p1_colOf p1_below p1_face p1_worn p1_last p3_stepCount p3_stacked p3_steps p3_stack h_0 h_1 h_2 h_3 h_4 h_5 h_6 h_7 h_8 h_9 h_10 h_11 h_12 h_13 h_14 h_15 h_16 h_17 h_18 h_19 h_20 h_21 h_22 h_23 h_24 h_25 h_26 h_27 h_28 h_29 h_30 h_31 h_32 h_33 h_34 h_35 h_36 h_37 h_38 h_39 h_40 h_41 h_42 h_43 hm
    exact absurd hm (by omega)
  | succ n ih =>
    intro x2 x5 x6 x7 v_size v_trial_rows v_trial_cols v_trial_high v_trial_wide v_trial_folds v_trial_wrong v_trial_more v_trial_rowOf v_trial_colOf v_trial_below v_trial_face v_trial_worn v_trial_last v_trial_bend v_trial_tall v_lines v_ways p1_rows p1_cols p1_high p1_wide p1_folds p1_wrong p1_more p1_rowOf p1_colOf p1_below p1_face p1_worn p1_last p3_stepCount p3_stacked p3_steps p3_stack h_0 h_1 h_2 h_3 h_4 h_5 h_6 h_7 h_8 h_9 h_10 h_11 h_12 h_13 h_14 h_15 h_16 h_17 h_18 h_19 h_20 h_21 h_22 h_23 h_24 h_25 h_26 h_27 h_28 h_29 h_30 h_31 h_32 h_33 h_34 h_35 h_36 h_37 h_38 h_39 h_40 h_41 h_42 h_43 hm
    refine wp_of (uf_X3_tryInWind_15 _ _ _ _ _ _ _ _ _ _ _ _ _ _ _ _ _ _ _ _ _ _ _ _ _ _ _ _ _ _ _ _ _ _ _ _ _ _ _ _ _) ?_
    refine wp_if (fun c_1 => ?_) (fun c_1 => ?_)
    ·
      have dc_1 := i_le c_1
      exact wp_so18 ⟨h_4, h_5, h_6, h_7, h_8, h_9, h_10, h_11, h_12, h_13, h_14, h_15, h_16, h_17, h_18, h_19, h_20, h_21, h_41⟩
    ·
      have dc_1 := i_nle c_1
      refine wp_ck (i_inb (by omega) (by omega)) ?_
      refine wp_ck (i_inb (by omega) (by omega)) ?_
      refine wp_bd1 (sf_X5_hasLine hN h_8 h_9 h_10 h_11) (fun r_18 q_2 => ?_)
      rcases q_2 with ⟨rfl, q_2⟩ | ⟨rfl, q_2⟩
      ·
        refine wp_ifn (by decide) ?_
        refine wp_nm (fun y_21 _ => ?_)
        have n_3 : (100 : Int32).toInt = 100 := by decide
        refine wp_ck (i_nz (by omega)) ?_
        generalize hz_z : (mm_rem ((y_21.toUInt32 >>> (((8 : Int32)).toUInt32 &&& (Int32.toUInt32 31)))).toInt32 (100 : Int32)) = z
        have e_5 := i_remL (c := 100) (by decide) (by decide) hz_z
        refine wp_if (fun c_4 => ?_) (fun c_4 => ?_)
        ·
          have dc_4 := i_le c_4
          refine wp_ck (i_inb (by omega) (by omega)) ?_
          refine wp_of (uf_X3_tryInWind_91 _ _ _ _ _ _ _ _ _ _ _ _ _ _ _ _ _ _ _ _ _ _ _ _ _ _ _ _ _ _ _ _ _ _ _ _ _ _ _ _ _ _) ?_
          refine wp_ck (i_inb (by omega) (by omega)) ?_
          refine wp_bd16 (sf_X5_bendAndTurn hN h_4 h_5 h_6 h_7 h_8 h_9 h_10 h_11 h_12 h_13 h_14 h_15 h_16 h_17 h_18 h_19 h_20 h_21 h_38 h_39 h_40 h_41 (by omega) (by omega) (by omega)) (fun r_27 w_28 w_29 w_30 w_31 w_32 w_33 w_34 w_35 w_36 w_37 w_38 w_39 w_40 w_41 w_42 ⟨q_6, q_7, q_8, q_9, q_10, q_11, q_12, q_13, q_14, q_15, q_16, q_17, q_18, q_19, q_20⟩ => ?_)
          have n_21 : (1 : Int32).toInt = 1 := by decide
          refine wp_nm (fun y_44 h_y_44 => ?_)
          have e_22 := i_addE h_y_44.symm (by omega) (by omega)
          exact ih _ _ _ _ _ _ _ _ _ _ _ _ _ _ _ _ _ _ _ _ _ _ _ _ _ _ _ _ _ _ _ _ _ _ _ _ _ _ _ h_0 h_1 h_2 h_3 h_4 h_5 h_6 h_7 q_6 q_7 q_8 q_9 q_10 q_11 q_12 q_13 q_14 q_15 q_16 q_17 q_18 q_19 h_22 h_23 h_24 h_25 h_26 h_27 h_28 h_29 h_30 h_31 h_32 h_33 h_34 h_35 h_36 h_37 h_38 h_39 h_40 q_20 (by omega) (by omega) (by omega)
        ·
          have dc_4 := i_nle c_4
          refine wp_ck (i_inb (by omega) (by omega)) ?_
          refine wp_of (uf_X3_tryInWind_91 _ _ _ _ _ _ _ _ _ _ _ _ _ _ _ _ _ _ _ _ _ _ _ _ _ _ _ _ _ _ _ _ _ _ _ _ _ _ _ _ _ _) ?_
          refine wp_ck (i_inb (by omega) (by omega)) ?_
          have hx_23 := x1_lt4 (mm_ig v_ways x7)
          refine wp_bd16 (sf_X5_bendAndTurn hN h_4 h_5 h_6 h_7 h_8 h_9 h_10 h_11 h_12 h_13 h_14 h_15 h_16 h_17 h_18 h_19 h_20 h_21 h_38 h_39 h_40 h_41 (by omega) (by omega) (by omega)) (fun r_27__24 w_28__25 w_29__26 w_30__27 w_31__28 w_32__29 w_33__30 w_34__31 w_35__32 w_36__33 w_37__34 w_38__35 w_39__36 w_40__37 w_41__38 w_42__39 ⟨q_40, q_41, q_42, q_43, q_44, q_45, q_46, q_47, q_48, q_49, q_50, q_51, q_52, q_53, q_54⟩ => ?_)
          have n_56 : (1 : Int32).toInt = 1 := by decide
          refine wp_nm (fun y_44__55 h_y_44__55 => ?_)
          have e_57 := i_addE h_y_44__55.symm (by omega) (by omega)
          exact ih _ _ _ _ _ _ _ _ _ _ _ _ _ _ _ _ _ _ _ _ _ _ _ _ _ _ _ _ _ _ _ _ _ _ _ _ _ _ _ h_0 h_1 h_2 h_3 h_4 h_5 h_6 h_7 q_40 q_41 q_42 q_43 q_44 q_45 q_46 q_47 q_48 q_49 q_50 q_51 q_52 q_53 h_22 h_23 h_24 h_25 h_26 h_27 h_28 h_29 h_30 h_31 h_32 h_33 h_34 h_35 h_36 h_37 h_38 h_39 h_40 q_54 (by omega) (by omega) (by omega)
      ·
        refine wp_ifp (by decide) ?_
        exact wp_so18 ⟨h_4, h_5, h_6, h_7, h_8, h_9, h_10, h_11, h_12, h_13, h_14, h_15, h_16, h_17, h_18, h_19, h_20, h_21, h_41⟩

theorem uf_X3_tryInWind (N : Nat) (x2 : Int32) (x4 : Int32) (x5 : Int32) (v_size : Int32) (v_trial_rows : Int32) (v_trial_cols : Int32) (v_trial_high : Int32) (v_trial_wide : Int32) (v_trial_folds : Int32) (v_trial_wrong : Int32) (v_trial_more : Int32) (v_trial_rowOf : List Int32) (v_trial_colOf : List Int32) (v_trial_below : List Int32) (v_trial_face : List Int32) (v_trial_worn : List Int32) (v_trial_last : List Int32) (v_trial_bend : List Int32) (v_trial_tall : List Int32) (v_lines : List Int32) (v_ways : List Int32) (p1_rows : Int32) (p1_cols : Int32) (p1_high : Int32) (p1_wide : Int32) (p1_folds : Int32) (p1_wrong : Int32) (p1_more : Int32) (p1_rowOf : List Int32) (p1_colOf : List Int32) (p1_below : List Int32) (p1_face : List Int32) (p1_worn : List Int32) (p1_last : List Int32) (p3_stepCount : Int32) (p3_stacked : Int32) (p3_steps : List Int32) (p3_stack : List Int32) : fX3_tryInWind N x2 x4 x5 v_size v_trial_rows v_trial_cols v_trial_high v_trial_wide v_trial_folds v_trial_wrong v_trial_more v_trial_rowOf v_trial_colOf v_trial_below v_trial_face v_trial_worn v_trial_last v_trial_bend v_trial_tall v_lines v_ways p1_rows p1_cols p1_high p1_wide p1_folds p1_wrong p1_more p1_rowOf p1_colOf p1_below p1_face p1_worn p1_last p3_stepCount p3_stacked p3_steps p3_stack = mm_bd13 (fX5_beginTrial N v_trial_rows v_trial_cols v_trial_high v_trial_wide v_trial_folds v_trial_wrong v_trial_more v_trial_rowOf v_trial_colOf v_trial_below v_trial_face v_trial_worn v_trial_last p1_rows p1_cols p1_high p1_wide p1_folds p1_wrong p1_more p1_rowOf p1_colOf p1_below p1_face p1_worn p1_last) (fun (w_1 : Int32) (w_2 : Int32) (w_3 : Int32) (w_4 : Int32) (w_5 : Int32) (w_6 : Int32) (w_7 : Int32) (w_8 : List Int32) (w_9 : List Int32) (w_10 : List Int32) (w_11 : List Int32) (w_12 : List Int32) (w_13 : List Int32) =>
    fX3_tryInWind_15 N N x2 x5 x4 (0 : Int32) v_size w_1 w_2 w_3 w_4 w_5 w_6 w_7 w_8 w_9 w_10 w_11 w_12 w_13 v_trial_bend v_trial_tall v_lines v_ways p1_rows p1_cols p1_high p1_wide p1_folds p1_wrong p1_more p1_rowOf p1_colOf p1_below p1_face p1_worn p1_last p3_stepCount p3_stacked p3_steps p3_stack) := rfl

set_option maxHeartbeats 4000000 in
set_option maxRecDepth 20000 in
theorem sf_X3_tryInWind {N : Nat} (hN : 700 ≤ N) {x2 : Int32} {x4 : Int32} {x5 : Int32} {v_size : Int32} {v_trial_rows : Int32} {v_trial_cols : Int32} {v_trial_high : Int32} {v_trial_wide : Int32} {v_trial_folds : Int32} {v_trial_wrong : Int32} {v_trial_more : Int32} {v_trial_rowOf : List Int32} {v_trial_colOf : List Int32} {v_trial_below : List Int32} {v_trial_face : List Int32} {v_trial_worn : List Int32} {v_trial_last : List Int32} {v_trial_bend : List Int32} {v_trial_tall : List Int32} {v_lines : List Int32} {v_ways : List Int32} {p1_rows : Int32} {p1_cols : Int32} {p1_high : Int32} {p1_wide : Int32} {p1_folds : Int32} {p1_wrong : Int32} {p1_more : Int32} {p1_rowOf : List Int32} {p1_colOf : List Int32} {p1_below : List Int32} {p1_face : List Int32} {p1_worn : List Int32} {p1_last : List Int32} {p3_stepCount : Int32} {p3_stacked : Int32} {p3_steps : List Int32} {p3_stack : List Int32} (h_0 : 0 ≤ v_size.toInt) (h_1 : v_size.toInt ≤ 12) (h_2 : v_lines.length = 12) (h_3 : v_ways.length = 12) (h_4 : 1 ≤ v_trial_rows.toInt) (h_5 : v_trial_rows.toInt ≤ 4) (h_6 : 1 ≤ v_trial_cols.toInt) (h_7 : v_trial_cols.toInt ≤ 8) (h_8 : 1 ≤ v_trial_high.toInt) (h_9 : v_trial_high.toInt ≤ 4) (h_10 : 1 ≤ v_trial_wide.toInt) (h_11 : v_trial_wide.toInt ≤ 8) (h_12 : v_trial_rowOf.length = 32) (h_13 : v_trial_colOf.length = 32) (h_14 : v_trial_below.length = 32) (h_15 : v_trial_face.length = 32) (h_16 : v_trial_worn.length = 64) (h_17 : v_trial_last.length = 64) (h_18 : v_trial_bend.length = 64) (h_19 : v_trial_tall.length = 32) (h_20 : 1 ≤ p1_rows.toInt) (h_21 : p1_rows.toInt ≤ 4) (h_22 : 1 ≤ p1_cols.toInt) (h_23 : p1_cols.toInt ≤ 8) (h_24 : 1 ≤ p1_high.toInt) (h_25 : p1_high.toInt ≤ 4) (h_26 : 1 ≤ p1_wide.toInt) (h_27 : p1_wide.toInt ≤ 8) (h_28 : p1_rowOf.length = 32) (h_29 : p1_colOf.length = 32) (h_30 : p1_below.length = 32) (h_31 : p1_face.length = 32) (h_32 : p1_worn.length = 64) (h_33 : p1_last.length = 64) (h_34 : zn p1_rowOf 0 (p1_rows.toInt * p1_cols.toInt) 0 p1_high.toInt) (h_35 : zn p1_colOf 0 (p1_rows.toInt * p1_cols.toInt) 0 p1_wide.toInt) (h_36 : 0 ≤ p3_stepCount.toInt) (h_37 : p3_stepCount.toInt ≤ 121) (h_38 : p3_steps.length = 121) (h_39 : p3_stack.length = 121) : wp (fX3_tryInWind N x2 x4 x5 v_size v_trial_rows v_trial_cols v_trial_high v_trial_wide v_trial_folds v_trial_wrong v_trial_more v_trial_rowOf v_trial_colOf v_trial_below v_trial_face v_trial_worn v_trial_last v_trial_bend v_trial_tall v_lines v_ways p1_rows p1_cols p1_high p1_wide p1_folds p1_wrong p1_more p1_rowOf p1_colOf p1_below p1_face p1_worn p1_last p3_stepCount p3_stacked p3_steps p3_stack) (cu18 (fun (r : Int32) (wv_trial_rows : Int32) (wv_trial_cols : Int32) (wv_trial_high : Int32) (wv_trial_wide : Int32) (wv_trial_folds : Int32) (wv_trial_wrong : Int32) (wv_trial_more : Int32) (wv_trial_rowOf : List Int32) (wv_trial_colOf : List Int32) (wv_trial_below : List Int32) (wv_trial_face : List Int32) (wv_trial_worn : List Int32) (wv_trial_last : List Int32) (wv_trial_bend : List Int32) (wv_trial_tall : List Int32) (wp3_stacked : Int32) (wp3_stack : List Int32) => 1 ≤ wv_trial_rows.toInt ∧ wv_trial_rows.toInt ≤ 4 ∧ 1 ≤ wv_trial_cols.toInt ∧ wv_trial_cols.toInt ≤ 8 ∧ 1 ≤ wv_trial_high.toInt ∧ wv_trial_high.toInt ≤ 4 ∧ 1 ≤ wv_trial_wide.toInt ∧ wv_trial_wide.toInt ≤ 8 ∧ wv_trial_rowOf.length = 32 ∧ wv_trial_colOf.length = 32 ∧ wv_trial_below.length = 32 ∧ wv_trial_face.length = 32 ∧ wv_trial_worn.length = 64 ∧ wv_trial_last.length = 64 ∧ wv_trial_bend.length = 64 ∧ wv_trial_tall.length = 32 ∧ zn wv_trial_rowOf 0 (wv_trial_rows.toInt * wv_trial_cols.toInt) 0 wv_trial_high.toInt ∧ zn wv_trial_colOf 0 (wv_trial_rows.toInt * wv_trial_cols.toInt) 0 wv_trial_wide.toInt ∧ wp3_stack.length = 121)) := by
  refine wp_of (uf_X3_tryInWind _ _ _ _ _ _ _ _ _ _ _ _ _ _ _ _ _ _ _ _ _ _ _ _ _ _ _ _ _ _ _ _ _ _ _ _ _ _ _) ?_
  refine wp_bd13 (sf_X5_beginTrial hN h_4 h_5 h_6 h_7 h_8 h_9 h_10 h_11 h_12 h_13 h_14 h_15 h_16 h_17 h_20 h_21 h_22 h_23 h_24 h_25 h_26 h_27 h_28 h_29 h_30 h_31 h_32 h_33 h_34 h_35) (fun w_1 w_2 w_3 w_4 w_5 w_6 w_7 w_8 w_9 w_10 w_11 w_12 w_13 ⟨q_1, q_2, q_3, q_4, q_5, q_6, q_7, q_8, q_9, q_10, q_11, q_12, q_13, q_14, q_15, q_16, q_17, q_18⟩ => ?_)
  have n_19 : (0 : Int32).toInt = 0 := by decide
  exact sf_X3_tryInWind_15 hN _ _ _ _ _ _ _ _ _ _ _ _ _ _ _ _ _ _ _ _ _ _ _ _ _ _ _ _ _ _ _ _ _ _ _ _ _ _ _ _ h_0 h_1 h_2 h_3 q_1 q_2 q_3 q_4 q_5 q_6 q_7 q_8 q_9 q_10 q_11 q_12 q_13 q_14 h_18 h_19 q_15 q_16 h_20 h_21 h_22 h_23 h_24 h_25 h_26 h_27 h_28 h_29 h_30 h_31 h_32 h_33 h_34 h_35 h_36 h_37 h_38 h_39 (by omega) (by omega) (by omega)
