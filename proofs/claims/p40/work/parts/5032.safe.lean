/-! safe -/
theorem uf_X4_halvings_4 (N : Nat) (n : Nat) (x0 : Int32) (x1 : Int32) (x2 : Int32) : fX4_halvings_4 N (n + 1) x0 x1 x2 = 
    if x0 ≤ x2 then
    (some (x1))
    else (mm_nm (x1 + (1 : Int32)) (fun (y_2 : Int32) =>
    mm_nm ((x2 * (2 : Int32))) (fun (y_3 : Int32) =>
    fX4_halvings_4 N n x0 y_2 y_3))) := rfl

set_option maxHeartbeats 4000000 in
set_option maxRecDepth 20000 in
theorem sf_X4_halvings_4 {N : Nat} (hN : 700 ≤ N)  : ∀ (n : Nat) (x0 : Int32) (x1 : Int32) (x2 : Int32), x0.toInt ≤ 8 → 1 ≤ x2.toInt → x2.toInt ≤ 16 → (16 - x2.toInt).toNat < n → wp (fX4_halvings_4 N n x0 x1 x2) (fun (r : Int32) => True) := by
  intro n
  induction n with
  | zero =>
    intro x0 x1 x2 h_0 h_1 h_2 hm
    exact absurd hm (by omega)
  | succ n ih =>
    intro x0 x1 x2 h_0 h_1 h_2 hm
    refine wp_of (uf_X4_halvings_4 _ _ _ _ _) ?_
    refine wp_if (fun c_1 => ?_) (fun c_1 => ?_)
    ·
      have dc_1 := i_le c_1
      exact wp_so1 trivial
    ·
      have dc_1 := i_nle c_1
      refine wp_nm (fun y_2 _ => ?_)
      have n_2 : (2 : Int32).toInt = 2 := by decide
      refine wp_nm (fun y_3 h_y_3 => ?_)
      have e_3 := i_mulRE (c := 2) (by decide) h_y_3.symm (by omega) (by omega)
      exact ih _ _ _ h_0 (by omega) (by omega) (by omega)

theorem uf_X4_halvings (N : Nat) (x0 : Int32) : fX4_halvings N x0 = fX4_halvings_4 N N x0 (0 : Int32) (1 : Int32) := rfl

set_option maxHeartbeats 4000000 in
set_option maxRecDepth 20000 in
theorem sf_X4_halvings {N : Nat} (hN : 700 ≤ N) {x0 : Int32} (h_0 : x0.toInt ≤ 8) : wp (fX4_halvings N x0) (fun (r : Int32) => True) := by
  refine wp_of (uf_X4_halvings _ _) ?_
  have n_1 : (1 : Int32).toInt = 1 := by decide
  exact sf_X4_halvings_4 hN _ _ _ _ h_0 (by omega) (by omega) (by omega)

theorem uf_X4_canEnd (N : Nat) (x1 : Int32) (x2 : Int32) (x3 : Int32) (p0_high : Int32) (p0_wide : Int32) : fX4_canEnd N x1 x2 x3 p0_high p0_wide = if (4 : Int32) ≤ x2 then
    (fX4_canEnd_16 N x1 x2 x3 p0_wide p0_high p0_wide)
    else (fX4_canEnd_16 N x1 x2 x3 p0_high p0_high p0_wide) := rfl

theorem uf_X4_canEnd_16 (N : Nat) (x1 : Int32) (x2 : Int32) (x3 : Int32) (s0 : Int32) (p0_high : Int32) (p0_wide : Int32) : fX4_canEnd_16 N x1 x2 x3 s0 p0_high p0_wide = mm_bd1 (fX5_spanBehind N x1 x2 p0_high p0_wide) (fun (r_2 : Int32) =>
    mm_bd1 (fX4_halvings N r_2) (fun (r_4 : Int32) =>
    mm_bd1 (fX4_halvings N s0) (fun (r_6 : Int32) =>
    if x3 < (r_4 + r_6) then
    (some (false))
    else (some (true))))) := rfl

set_option maxHeartbeats 4000000 in
set_option maxRecDepth 20000 in
theorem sf_X4_canEnd {N : Nat} (hN : 700 ≤ N) {x1 : Int32} {x2 : Int32} {x3 : Int32} {p0_high : Int32} {p0_wide : Int32} (h_0 : 1 ≤ p0_high.toInt) (h_1 : p0_high.toInt ≤ 4) (h_2 : 1 ≤ p0_wide.toInt) (h_3 : p0_wide.toInt ≤ 8) (h_4 : 1 ≤ x1.toInt) (h_5 : (x2.toInt < 4 → x1.toInt < p0_wide.toInt)) (h_6 : (4 ≤ x2.toInt → x1.toInt < p0_high.toInt)) : wp (fX4_canEnd N x1 x2 x3 p0_high p0_wide) (fun (r : Bool) => True) := by
  refine wp_of (uf_X4_canEnd _ _ _ _ _ _) ?_
  have n_2 : (4 : Int32).toInt = 4 := by decide
  refine wp_if (fun c_1 => ?_) (fun c_1 => ?_)
  ·
    have dc_1 := i_le c_1
    refine wp_of (uf_X4_canEnd_16 _ _ _ _ _ _ _) ?_
    refine wp_in1 ?_
    refine wp_of (uf_X5_spanBehind _ _ _ _ _) ?_
    refine wp_in1 ?_
    refine wp_of (uf_X5_span _ _ _ _) ?_
    refine wp_ifp c_1 ?_
    refine wp_so1 ?_
    show wp _ _
    refine wp_so1 ?_
    show wp _ _
    generalize hz_z : (p0_high - x1) = z
    first | have e_3 := i_subE hz_z (by omega) (by omega) | obtain ⟨k_3, e_3, e1_3, e2_3⟩ := i_subY hz_z
    generalize hz_z__4 : (mm_max x1 z) = z__4
    have e_5 := i_maxY hz_z__4
    refine wp_bd1 (sf_X4_halvings hN (by omega)) (fun r_4 _ => ?_)
    refine wp_bd1 (sf_X4_halvings hN h_3) (fun r_6 _ => ?_)
    generalize hz_z__7 : (r_4 + r_6) = z__7
    first | have e_8 := i_addE hz_z__7 (by omega) (by omega) | obtain ⟨k_8, e_8, e1_8, e2_8⟩ := i_addY hz_z__7
    refine wp_if (fun c_6 => ?_) (fun c_6 => ?_)
    ·
      have dc_6 := i_lt c_6
      exact wp_so1 trivial
    ·
      have dc_6 := i_nlt c_6
      exact wp_so1 trivial
  ·
    have dc_1 := i_nle c_1
    refine wp_of (uf_X4_canEnd_16 _ _ _ _ _ _ _) ?_
    refine wp_in1 ?_
    refine wp_of (uf_X5_spanBehind _ _ _ _ _) ?_
    refine wp_in1 ?_
    refine wp_of (uf_X5_span _ _ _ _) ?_
    refine wp_ifn c_1 ?_
    refine wp_so1 ?_
    show wp _ _
    refine wp_so1 ?_
    show wp _ _
    generalize hz_z__9 : (p0_wide - x1) = z__9
    first | have e_10 := i_subE hz_z__9 (by omega) (by omega) | obtain ⟨k_10, e_10, e1_10, e2_10⟩ := i_subY hz_z__9
    generalize hz_z__11 : (mm_max x1 z__9) = z__11
    have e_12 := i_maxY hz_z__11
    refine wp_bd1 (sf_X4_halvings hN (by omega)) (fun r_4__13 _ => ?_)
    refine wp_bd1 (sf_X4_halvings hN (by omega)) (fun r_6__14 _ => ?_)
    generalize hz_z__16 : (r_4__13 + r_6__14) = z__16
    first | have e_17 := i_addE hz_z__16 (by omega) (by omega) | obtain ⟨k_17, e_17, e1_17, e2_17⟩ := i_addY hz_z__16
    refine wp_if (fun c_15 => ?_) (fun c_15 => ?_)
    ·
      have dc_15 := i_lt c_15
      exact wp_so1 trivial
    ·
      have dc_15 := i_nlt c_15
      exact wp_so1 trivial

theorem uf_X4_begin (N : Nat) (x2 : Int32) (v_found : Bool) (v_wanted : Int32) (v_levels0_rows : Int32) (v_levels0_cols : Int32) (v_levels0_high : Int32) (v_levels0_wide : Int32) (v_levels0_folds : Int32) (v_levels0_wrong : Int32) (v_levels0_more : Int32) (v_levels0_rowOf : List Int32) (v_levels0_colOf : List Int32) (v_levels0_below : List Int32) (v_levels0_face : List Int32) (v_levels0_worn : List Int32) (v_levels0_last : List Int32) (p1_rows : Int32) (p1_cols : Int32) (p1_high : Int32) (p1_wide : Int32) (p1_folds : Int32) (p1_wrong : Int32) (p1_more : Int32) (p1_rowOf : List Int32) (p1_colOf : List Int32) (p1_below : List Int32) (p1_face : List Int32) (p1_worn : List Int32) (p1_last : List Int32) : fX4_begin N x2 v_found v_wanted v_levels0_rows v_levels0_cols v_levels0_high v_levels0_wide v_levels0_folds v_levels0_wrong v_levels0_more v_levels0_rowOf v_levels0_colOf v_levels0_below v_levels0_face v_levels0_worn v_levels0_last p1_rows p1_cols p1_high p1_wide p1_folds p1_wrong p1_more p1_rowOf p1_colOf p1_below p1_face p1_worn p1_last = mm_bd13 (fX5_beginTrial N v_levels0_rows v_levels0_cols v_levels0_high v_levels0_wide v_levels0_folds v_levels0_wrong v_levels0_more v_levels0_rowOf v_levels0_colOf v_levels0_below v_levels0_face v_levels0_worn v_levels0_last p1_rows p1_cols p1_high p1_wide p1_folds p1_wrong p1_more p1_rowOf p1_colOf p1_below p1_face p1_worn p1_last) (fun (w_1 : Int32) (w_2 : Int32) (w_3 : Int32) (w_4 : Int32) (w_5 : Int32) (w_6 : Int32) (w_7 : Int32) (w_8 : List Int32) (w_9 : List Int32) (w_10 : List Int32) (w_11 : List Int32) (w_12 : List Int32) (w_13 : List Int32) =>
    some (false, x2, w_1, w_2, w_3, w_4, w_5, w_6, w_7, w_8, w_9, w_10, w_11, w_12, w_13)) := rfl

set_option maxHeartbeats 4000000 in
set_option maxRecDepth 20000 in
theorem sf_X4_begin {N : Nat} (hN : 700 ≤ N) {x2 : Int32} {v_found : Bool} {v_wanted : Int32} {v_levels0_rows : Int32} {v_levels0_cols : Int32} {v_levels0_high : Int32} {v_levels0_wide : Int32} {v_levels0_folds : Int32} {v_levels0_wrong : Int32} {v_levels0_more : Int32} {v_levels0_rowOf : List Int32} {v_levels0_colOf : List Int32} {v_levels0_below : List Int32} {v_levels0_face : List Int32} {v_levels0_worn : List Int32} {v_levels0_last : List Int32} {p1_rows : Int32} {p1_cols : Int32} {p1_high : Int32} {p1_wide : Int32} {p1_folds : Int32} {p1_wrong : Int32} {p1_more : Int32} {p1_rowOf : List Int32} {p1_colOf : List Int32} {p1_below : List Int32} {p1_face : List Int32} {p1_worn : List Int32} {p1_last : List Int32} (h_0 : 1 ≤ v_levels0_rows.toInt) (h_1 : v_levels0_rows.toInt ≤ 4) (h_2 : 1 ≤ v_levels0_cols.toInt) (h_3 : v_levels0_cols.toInt ≤ 8) (h_4 : 1 ≤ v_levels0_high.toInt) (h_5 : v_levels0_high.toInt ≤ 4) (h_6 : 1 ≤ v_levels0_wide.toInt) (h_7 : v_levels0_wide.toInt ≤ 8) (h_8 : v_levels0_rowOf.length = 32) (h_9 : v_levels0_colOf.length = 32) (h_10 : v_levels0_below.length = 32) (h_11 : v_levels0_face.length = 32) (h_12 : v_levels0_worn.length = 64) (h_13 : v_levels0_last.length = 64) (h_14 : 1 ≤ p1_rows.toInt) (h_15 : p1_rows.toInt ≤ 4) (h_16 : 1 ≤ p1_cols.toInt) (h_17 : p1_cols.toInt ≤ 8) (h_18 : 1 ≤ p1_high.toInt) (h_19 : p1_high.toInt ≤ 4) (h_20 : 1 ≤ p1_wide.toInt) (h_21 : p1_wide.toInt ≤ 8) (h_22 : p1_rowOf.length = 32) (h_23 : p1_colOf.length = 32) (h_24 : p1_below.length = 32) (h_25 : p1_face.length = 32) (h_26 : p1_worn.length = 64) (h_27 : p1_last.length = 64) (h_28 : zn p1_rowOf 0 (p1_rows.toInt * p1_cols.toInt) 0 p1_high.toInt) (h_29 : zn p1_colOf 0 (p1_rows.toInt * p1_cols.toInt) 0 p1_wide.toInt) (h_30 : x2.toInt < 32) : wp (fX4_begin N x2 v_found v_wanted v_levels0_rows v_levels0_cols v_levels0_high v_levels0_wide v_levels0_folds v_levels0_wrong v_levels0_more v_levels0_rowOf v_levels0_colOf v_levels0_below v_levels0_face v_levels0_worn v_levels0_last p1_rows p1_cols p1_high p1_wide p1_folds p1_wrong p1_more p1_rowOf p1_colOf p1_below p1_face p1_worn p1_last) (cu15 (fun (wv_found : Bool) (wv_wanted : Int32) (wv_levels0_rows : Int32) (wv_levels0_cols : Int32) (wv_levels0_high : Int32) (wv_levels0_wide : Int32) (wv_levels0_folds : Int32) (wv_levels0_wrong : Int32) (wv_levels0_more : Int32) (wv_levels0_rowOf : List Int32) (wv_levels0_colOf : List Int32) (wv_levels0_below : List Int32) (wv_levels0_face : List Int32) (wv_levels0_worn : List Int32) (wv_levels0_last : List Int32) => 1 ≤ wv_levels0_rows.toInt ∧ wv_levels0_rows.toInt ≤ 4 ∧ 1 ≤ wv_levels0_cols.toInt ∧ wv_levels0_cols.toInt ≤ 8 ∧ 1 ≤ wv_levels0_high.toInt ∧ wv_levels0_high.toInt ≤ 4 ∧ 1 ≤ wv_levels0_wide.toInt ∧ wv_levels0_wide.toInt ≤ 8 ∧ wv_levels0_rowOf.length = 32 ∧ wv_levels0_colOf.length = 32 ∧ wv_levels0_below.length = 32 ∧ wv_levels0_face.length = 32 ∧ wv_levels0_worn.length = 64 ∧ wv_levels0_last.length = 64 ∧ zn wv_levels0_rowOf 0 (wv_levels0_rows.toInt * wv_levels0_cols.toInt) 0 wv_levels0_high.toInt ∧ zn wv_levels0_colOf 0 (wv_levels0_rows.toInt * wv_levels0_cols.toInt) 0 wv_levels0_wide.toInt ∧ wv_wanted.toInt < 32)) := by
  refine wp_of (uf_X4_begin _ _ _ _ _ _ _ _ _ _ _ _ _ _ _ _ _ _ _ _ _ _ _ _ _ _ _ _ _ _) ?_
  refine wp_bd13 (sf_X5_beginTrial hN h_0 h_1 h_2 h_3 h_4 h_5 h_6 h_7 h_8 h_9 h_10 h_11 h_12 h_13 h_14 h_15 h_16 h_17 h_18 h_19 h_20 h_21 h_22 h_23 h_24 h_25 h_26 h_27 h_28 h_29) (fun w_1 w_2 w_3 w_4 w_5 w_6 w_7 w_8 w_9 w_10 w_11 w_12 w_13 ⟨q_1, q_2, q_3, q_4, q_5, q_6, q_7, q_8, q_9, q_10, q_11, q_12, q_13, q_14, q_15, q_16, q_17, q_18⟩ => ?_)
  exact wp_so15 ⟨q_1, q_2, q_3, q_4, q_5, q_6, q_7, q_8, q_9, q_10, q_11, q_12, q_13, q_14, q_15, q_16, h_30⟩

theorem uf_X4_soughtFold (N : Nat) (x1 : Int32) (v_folds : Int32) (v_best : List Int32) : fX4_soughtFold N x1 v_folds v_best = if x1 < 0 then
    (some ((-1 : Int32)))
    else (if v_folds ≤ x1 then
    (some ((-1 : Int32)))
    else (mm_ck (mm_inb x1 v_best.length) (some ((mm_ig v_best x1))))) := rfl

set_option maxHeartbeats 4000000 in
set_option maxRecDepth 20000 in
theorem sf_X4_soughtFold {N : Nat} (hN : 700 ≤ N) {x1 : Int32} {v_folds : Int32} {v_best : List Int32} (h_0 : 0 ≤ v_folds.toInt) (h_1 : v_folds.toInt ≤ 3) (h_2 : v_best.length = 3) : wp (fX4_soughtFold N x1 v_folds v_best) (fun (r : Int32) => True) := by
  refine wp_of (uf_X4_soughtFold _ _ _ _) ?_
  have n_2 : (0 : Int32).toInt = 0 := by decide
  refine wp_if (fun c_1 => ?_) (fun c_1 => ?_)
  ·
    have dc_1 := i_lt c_1
    exact wp_so1 trivial
  ·
    have dc_1 := i_nlt c_1
    refine wp_if (fun c_3 => ?_) (fun c_3 => ?_)
    ·
      have dc_3 := i_le c_3
      exact wp_so1 trivial
    ·
      have dc_3 := i_nle c_3
      refine wp_ck (i_inb (by omega) (by omega)) ?_
      exact wp_so1 trivial

theorem uf_X4_isLessv0 (N : Nat) (x2 : Int32) (v_wrong : Int32) (v_more : Int32) (v_folds : Int32) (v_levels0_wrong : Int32) (v_levels0_more : Int32) : fX4_isLessv0 N x2 v_wrong v_more v_folds v_levels0_wrong v_levels0_more = if v_levels0_wrong = v_wrong then
    (if v_levels0_more = v_more then
    (if v_folds ≤ x2 then
    (some (false))
    else (some (true)))
    else (if v_more ≤ v_levels0_more then
    (some (false))
    else (some (true))))
    else (if v_wrong ≤ v_levels0_wrong then
    (some (false))
    else (some (true))) := rfl

set_option maxHeartbeats 4000000 in
set_option maxRecDepth 20000 in
theorem sf_X4_isLessv0 {N : Nat} (hN : 700 ≤ N) {x2 : Int32} {v_wrong : Int32} {v_more : Int32} {v_folds : Int32} {v_levels0_wrong : Int32} {v_levels0_more : Int32} (h_0 : 0 ≤ v_folds.toInt) (h_1 : v_folds.toInt ≤ 3) : wp (fX4_isLessv0 N x2 v_wrong v_more v_folds v_levels0_wrong v_levels0_more) (fun (r : Bool) => True) := by
  refine wp_of (uf_X4_isLessv0 _ _ _ _ _ _ _) ?_
  refine wp_if (fun c_1 => ?_) (fun c_1 => ?_)
  ·
    have dc_1 := i_eq c_1
    refine wp_if (fun c_2 => ?_) (fun c_2 => ?_)
    ·
      have dc_2 := i_eq c_2
      refine wp_if (fun c_3 => ?_) (fun c_3 => ?_)
      ·
        have dc_3 := i_le c_3
        exact wp_so1 trivial
      ·
        have dc_3 := i_nle c_3
        exact wp_so1 trivial
    ·
      have dc_2 := i_ne c_2
      refine wp_if (fun c_4 => ?_) (fun c_4 => ?_)
      ·
        have dc_4 := i_le c_4
        exact wp_so1 trivial
      ·
        have dc_4 := i_nle c_4
        exact wp_so1 trivial
  ·
    have dc_1 := i_ne c_1
    refine wp_if (fun c_5 => ?_) (fun c_5 => ?_)
    ·
      have dc_5 := i_le c_5
      exact wp_so1 trivial
    ·
      have dc_5 := i_nle c_5
      exact wp_so1 trivial

theorem uf_X4_isLessv1 (N : Nat) (x2 : Int32) (v_wrong : Int32) (v_more : Int32) (v_folds : Int32) (v_levels1_wrong : Int32) (v_levels1_more : Int32) : fX4_isLessv1 N x2 v_wrong v_more v_folds v_levels1_wrong v_levels1_more = if v_levels1_wrong = v_wrong then
    (if v_levels1_more = v_more then
    (if v_folds ≤ x2 then
    (some (false))
    else (some (true)))
    else (if v_more ≤ v_levels1_more then
    (some (false))
    else (some (true))))
    else (if v_wrong ≤ v_levels1_wrong then
    (some (false))
    else (some (true))) := rfl

set_option maxHeartbeats 4000000 in
set_option maxRecDepth 20000 in
theorem sf_X4_isLessv1 {N : Nat} (hN : 700 ≤ N) {x2 : Int32} {v_wrong : Int32} {v_more : Int32} {v_folds : Int32} {v_levels1_wrong : Int32} {v_levels1_more : Int32} (h_0 : 0 ≤ v_folds.toInt) (h_1 : v_folds.toInt ≤ 3) : wp (fX4_isLessv1 N x2 v_wrong v_more v_folds v_levels1_wrong v_levels1_more) (fun (r : Bool) => True) := by
  refine wp_of (uf_X4_isLessv1 _ _ _ _ _ _ _) ?_
  refine wp_if (fun c_1 => ?_) (fun c_1 => ?_)
  ·
    have dc_1 := i_eq c_1
    refine wp_if (fun c_2 => ?_) (fun c_2 => ?_)
    ·
      have dc_2 := i_eq c_2
      refine wp_if (fun c_3 => ?_) (fun c_3 => ?_)
      ·
        have dc_3 := i_le c_3
        exact wp_so1 trivial
      ·
        have dc_3 := i_nle c_3
        exact wp_so1 trivial
    ·
      have dc_2 := i_ne c_2
      refine wp_if (fun c_4 => ?_) (fun c_4 => ?_)
      ·
        have dc_4 := i_le c_4
        exact wp_so1 trivial
      ·
        have dc_4 := i_nle c_4
        exact wp_so1 trivial
  ·
    have dc_1 := i_ne c_1
    refine wp_if (fun c_5 => ?_) (fun c_5 => ?_)
    ·
      have dc_5 := i_le c_5
      exact wp_so1 trivial
    ·
      have dc_5 := i_nle c_5
      exact wp_so1 trivial

theorem uf_X4_isLessv2 (N : Nat) (x2 : Int32) (v_wrong : Int32) (v_more : Int32) (v_folds : Int32) (v_levels2_wrong : Int32) (v_levels2_more : Int32) : fX4_isLessv2 N x2 v_wrong v_more v_folds v_levels2_wrong v_levels2_more = if v_levels2_wrong = v_wrong then
    (if v_levels2_more = v_more then
    (if v_folds ≤ x2 then
    (some (false))
    else (some (true)))
    else (if v_more ≤ v_levels2_more then
    (some (false))
    else (some (true))))
    else (if v_wrong ≤ v_levels2_wrong then
    (some (false))
    else (some (true))) := rfl

set_option maxHeartbeats 4000000 in
set_option maxRecDepth 20000 in
theorem sf_X4_isLessv2 {N : Nat} (hN : 700 ≤ N) {x2 : Int32} {v_wrong : Int32} {v_more : Int32} {v_folds : Int32} {v_levels2_wrong : Int32} {v_levels2_more : Int32} (h_0 : 0 ≤ v_folds.toInt) (h_1 : v_folds.toInt ≤ 3) : wp (fX4_isLessv2 N x2 v_wrong v_more v_folds v_levels2_wrong v_levels2_more) (fun (r : Bool) => True) := by
  refine wp_of (uf_X4_isLessv2 _ _ _ _ _ _ _) ?_
  refine wp_if (fun c_1 => ?_) (fun c_1 => ?_)
  ·
    have dc_1 := i_eq c_1
    refine wp_if (fun c_2 => ?_) (fun c_2 => ?_)
    ·
      have dc_2 := i_eq c_2
      refine wp_if (fun c_3 => ?_) (fun c_3 => ?_)
      ·
        have dc_3 := i_le c_3
        exact wp_so1 trivial
      ·
        have dc_3 := i_nle c_3
        exact wp_so1 trivial
    ·
      have dc_2 := i_ne c_2
      refine wp_if (fun c_4 => ?_) (fun c_4 => ?_)
      ·
        have dc_4 := i_le c_4
        exact wp_so1 trivial
      ·
        have dc_4 := i_nle c_4
        exact wp_so1 trivial
  ·
    have dc_1 := i_ne c_1
    refine wp_if (fun c_5 => ?_) (fun c_5 => ?_)
    ·
      have dc_5 := i_le c_5
      exact wp_so1 trivial
    ·
      have dc_5 := i_nle c_5
      exact wp_so1 trivial

theorem uf_X4_isLessv3 (N : Nat) (x2 : Int32) (v_wrong : Int32) (v_more : Int32) (v_folds : Int32) (v_levels3_wrong : Int32) (v_levels3_more : Int32) : fX4_isLessv3 N x2 v_wrong v_more v_folds v_levels3_wrong v_levels3_more = if v_levels3_wrong = v_wrong then
    (if v_levels3_more = v_more then
    (if v_folds ≤ x2 then
    (some (false))
    else (some (true)))
    else (if v_more ≤ v_levels3_more then
    (some (false))
    else (some (true))))
    else (if v_wrong ≤ v_levels3_wrong then
    (some (false))
    else (some (true))) := rfl

set_option maxHeartbeats 4000000 in
set_option maxRecDepth 20000 in
theorem sf_X4_isLessv3 {N : Nat} (hN : 700 ≤ N) {x2 : Int32} {v_wrong : Int32} {v_more : Int32} {v_folds : Int32} {v_levels3_wrong : Int32} {v_levels3_more : Int32} (h_0 : 0 ≤ v_folds.toInt) (h_1 : v_folds.toInt ≤ 3) : wp (fX4_isLessv3 N x2 v_wrong v_more v_folds v_levels3_wrong v_levels3_more) (fun (r : Bool) => True) := by
  refine wp_of (uf_X4_isLessv3 _ _ _ _ _ _ _) ?_
  refine wp_if (fun c_1 => ?_) (fun c_1 => ?_)
  ·
    have dc_1 := i_eq c_1
    refine wp_if (fun c_2 => ?_) (fun c_2 => ?_)
    ·
      have dc_2 := i_eq c_2
      refine wp_if (fun c_3 => ?_) (fun c_3 => ?_)
      ·
        have dc_3 := i_le c_3
        exact wp_so1 trivial
      ·
        have dc_3 := i_nle c_3
        exact wp_so1 trivial
    ·
      have dc_2 := i_ne c_2
      refine wp_if (fun c_4 => ?_) (fun c_4 => ?_)
      ·
        have dc_4 := i_le c_4
        exact wp_so1 trivial
      ·
        have dc_4 := i_nle c_4
        exact wp_so1 trivial
  ·
    have dc_1 := i_ne c_1
    refine wp_if (fun c_5 => ?_) (fun c_5 => ?_)
    ·
      have dc_5 := i_le c_5
      exact wp_so1 trivial
    ·
      have dc_5 := i_nle c_5
      exact wp_so1 trivial

theorem uf_X4_weighv0 (N : Nat) (x2 : Int32) (v_found : Bool) (v_wrong : Int32) (v_more : Int32) (v_folds : Int32) (v_wanted : Int32) (v_levels0_rows : Int32) (v_levels0_cols : Int32) (v_levels0_wrong : Int32) (v_levels0_more : Int32) (v_levels0_rowOf : List Int32) (v_levels0_colOf : List Int32) (v_levels0_below : List Int32) (v_path : List Int32) (v_best : List Int32) : fX4_weighv0 N x2 v_found v_wrong v_more v_folds v_wanted v_levels0_rows v_levels0_cols v_levels0_wrong v_levels0_more v_levels0_rowOf v_levels0_colOf v_levels0_below v_path v_best = if v_wanted < 0 then
    (fX4_weighv0_19 N x2 v_found v_wrong v_more v_folds v_wanted v_levels0_rows v_levels0_cols v_levels0_wrong v_levels0_more v_levels0_rowOf v_levels0_colOf v_levels0_below v_path v_best)
    else (mm_bd1 (fX5_isTop N v_wanted v_levels0_rows v_levels0_cols v_levels0_rowOf v_levels0_colOf v_levels0_below) (fun (r_2 : Bool) =>
    if r_2 = false then
    (some (v_found, v_wrong, v_more, v_folds, v_best))
    else (fX4_weighv0_19 N x2 v_found v_wrong v_more v_folds v_wanted v_levels0_rows v_levels0_cols v_levels0_wrong v_levels0_more v_levels0_rowOf v_levels0_colOf v_levels0_below v_path v_best))) := rfl

theorem uf_X4_weighv0_19 (N : Nat) (x2 : Int32) (v_found : Bool) (v_wrong : Int32) (v_more : Int32) (v_folds : Int32) (v_wanted : Int32) (v_levels0_rows : Int32) (v_levels0_cols : Int32) (v_levels0_wrong : Int32) (v_levels0_more : Int32) (v_levels0_rowOf : List Int32) (v_levels0_colOf : List Int32) (v_levels0_below : List Int32) (v_path : List Int32) (v_best : List Int32) : fX4_weighv0_19 N x2 v_found v_wrong v_more v_folds v_wanted v_levels0_rows v_levels0_cols v_levels0_wrong v_levels0_more v_levels0_rowOf v_levels0_colOf v_levels0_below v_path v_best = if v_found = false then
    (fX4_weighv0_36 N x2 v_found v_wrong v_more v_folds v_wanted v_levels0_rows v_levels0_cols v_levels0_wrong v_levels0_more v_levels0_rowOf v_levels0_colOf v_levels0_below v_path v_best)
    else (mm_bd1 (fX4_isLessv0 N x2 v_wrong v_more v_folds v_levels0_wrong v_levels0_more) (fun (r_6 : Bool) =>
    if r_6 = false then
    (some (v_found, v_wrong, v_more, v_folds, v_best))
    else (fX4_weighv0_36 N x2 v_found v_wrong v_more v_folds v_wanted v_levels0_rows v_levels0_cols v_levels0_wrong v_levels0_more v_levels0_rowOf v_levels0_colOf v_levels0_below v_path v_best))) := rfl

theorem uf_X4_weighv0_36 (N : Nat) (x2 : Int32) (v_found : Bool) (v_wrong : Int32) (v_more : Int32) (v_folds : Int32) (v_wanted : Int32) (v_levels0_rows : Int32) (v_levels0_cols : Int32) (v_levels0_wrong : Int32) (v_levels0_more : Int32) (v_levels0_rowOf : List Int32) (v_levels0_colOf : List Int32) (v_levels0_below : List Int32) (v_path : List Int32) (v_best : List Int32) : fX4_weighv0_36 N x2 v_found v_wrong v_more v_folds v_wanted v_levels0_rows v_levels0_cols v_levels0_wrong v_levels0_more v_levels0_rowOf v_levels0_colOf v_levels0_below v_path v_best = mm_ck (mm_cok (0 : Int32) (0 : Int32) x2 v_path.length v_best.length) (mm_nm (mm_cp v_path v_best (0 : Int32) (0 : Int32) x2) (fun (l_10 : List Int32) =>
    some (true, v_levels0_wrong, v_levels0_more, x2, l_10))) := rfl

set_option maxHeartbeats 4000000 in
set_option maxRecDepth 20000 in
theorem sf_X4_weighv0 {N : Nat} (hN : 700 ≤ N) {x2 : Int32} {v_found : Bool} {v_wrong : Int32} {v_more : Int32} {v_folds : Int32} {v_wanted : Int32} {v_levels0_rows : Int32} {v_levels0_cols : Int32} {v_levels0_wrong : Int32} {v_levels0_more : Int32} {v_levels0_rowOf : List Int32} {v_levels0_colOf : List Int32} {v_levels0_below : List Int32} {v_path : List Int32} {v_best : List Int32} (h_0 : 0 ≤ v_folds.toInt) (h_1 : v_folds.toInt ≤ 3) (h_2 : v_path.length = 3) (h_3 : v_best.length = 3) (h_4 : 1 ≤ v_levels0_rows.toInt) (h_5 : v_levels0_rows.toInt ≤ 4) (h_6 : 1 ≤ v_levels0_cols.toInt) (h_7 : v_levels0_cols.toInt ≤ 8) (h_8 : v_levels0_rowOf.length = 32) (h_9 : v_levels0_colOf.length = 32) (h_10 : v_levels0_below.length = 32) (h_11 : v_wanted.toInt < 32) (h_12 : 0 ≤ x2.toInt) (h_13 : x2.toInt ≤ 3) : wp (fX4_weighv0 N x2 v_found v_wrong v_more v_folds v_wanted v_levels0_rows v_levels0_cols v_levels0_wrong v_levels0_more v_levels0_rowOf v_levels0_colOf v_levels0_below v_path v_best) (cu5 (fun (wv_found : Bool) (wv_wrong : Int32) (wv_more : Int32) (wv_folds : Int32) (wv_best : List Int32) => 0 ≤ wv_folds.toInt ∧ wv_folds.toInt ≤ 3 ∧ wv_best.length = 3)) := by
  refine wp_of (uf_X4_weighv0 _ _ _ _ _ _ _ _ _ _ _ _ _ _ _ _) ?_
  have n_2 : (0 : Int32).toInt = 0 := by decide
  refine wp_if (fun c_1 => ?_) (fun c_1 => ?_)
  ·
    have dc_1 := i_lt c_1
    refine wp_of (uf_X4_weighv0_19 _ _ _ _ _ _ _ _ _ _ _ _ _ _ _ _) ?_
    refine wp_if (fun c_3 => ?_) (fun c_3 => ?_)
    ·
      refine wp_of (uf_X4_weighv0_36 _ _ _ _ _ _ _ _ _ _ _ _ _ _ _ _) ?_
      have hc_4 : (mm_cok (0 : Int32) (0 : Int32) x2 v_path.length v_best.length) = true := i_cok (by omega) (by omega) (by omega) (by omega) (by omega)
      refine wp_ck hc_4 ?_
      refine wp_nm (fun l_10 h_l_10 => ?_)
      have nl_l_10 : l_10.length = 3 := by rw [h_l_10, cp_len hc_4]; assumption
      exact wp_so5 ⟨h_12, h_13, nl_l_10⟩
    ·
      refine wp_bd1 (sf_X4_isLessv0 hN h_0 h_1) (fun r_6 _ => ?_)
      refine wp_if (fun c_5 => ?_) (fun c_5 => ?_)
      ·
        exact wp_so5 ⟨h_0, h_1, h_3⟩
      ·
        refine wp_of (uf_X4_weighv0_36 _ _ _ _ _ _ _ _ _ _ _ _ _ _ _ _) ?_
        have hc_6 : (mm_cok (0 : Int32) (0 : Int32) x2 v_path.length v_best.length) = true := i_cok (by omega) (by omega) (by omega) (by omega) (by omega)
        refine wp_ck hc_6 ?_
        refine wp_nm (fun l_10__7 h_l_10__7 => ?_)
        have nl_l_10__7 : l_10__7.length = 3 := by rw [h_l_10__7, cp_len hc_6]; assumption
        exact wp_so5 ⟨h_12, h_13, nl_l_10__7⟩
  ·
    have dc_1 := i_nlt c_1
    refine wp_bd1 (sf_X5_isTop hN h_4 h_5 h_6 h_7 h_8 h_9 h_10 (by omega) h_11) (fun r_2 _ => ?_)
    refine wp_if (fun c_8 => ?_) (fun c_8 => ?_)
    ·
      exact wp_so5 ⟨h_0, h_1, h_3⟩
    ·
      refine wp_of (uf_X4_weighv0_19 _ _ _ _ _ _ _ _ _ _ _ _ _ _ _ _) ?_
      refine wp_if (fun c_9 => ?_) (fun c_9 => ?_)
      ·
        refine wp_of (uf_X4_weighv0_36 _ _ _ _ _ _ _ _ _ _ _ _ _ _ _ _) ?_
        have hc_10 : (mm_cok (0 : Int32) (0 : Int32) x2 v_path.length v_best.length) = true := i_cok (by omega) (by omega) (by omega) (by omega) (by omega)
        refine wp_ck hc_10 ?_
        refine wp_nm (fun l_10__11 h_l_10__11 => ?_)
        have nl_l_10__11 : l_10__11.length = 3 := by rw [h_l_10__11, cp_len hc_10]; assumption
        exact wp_so5 ⟨h_12, h_13, nl_l_10__11⟩
      ·
        refine wp_bd1 (sf_X4_isLessv0 hN h_0 h_1) (fun r_6__12 _ => ?_)
        refine wp_if (fun c_13 => ?_) (fun c_13 => ?_)
        ·
          exact wp_so5 ⟨h_0, h_1, h_3⟩
        ·
          refine wp_of (uf_X4_weighv0_36 _ _ _ _ _ _ _ _ _ _ _ _ _ _ _ _) ?_
          have hc_14 : (mm_cok (0 : Int32) (0 : Int32) x2 v_path.length v_best.length) = true := i_cok (by omega) (by omega) (by omega) (by omega) (by omega)
          refine wp_ck hc_14 ?_
          refine wp_nm (fun l_10__15 h_l_10__15 => ?_)
          have nl_l_10__15 : l_10__15.length = 3 := by rw [h_l_10__15, cp_len hc_14]; assumption
          exact wp_so5 ⟨h_12, h_13, nl_l_10__15⟩

theorem uf_X4_weighv1 (N : Nat) (x2 : Int32) (v_found : Bool) (v_wrong : Int32) (v_more : Int32) (v_folds : Int32) (v_wanted : Int32) (v_levels1_rows : Int32) (v_levels1_cols : Int32) (v_levels1_wrong : Int32) (v_levels1_more : Int32) (v_levels1_rowOf : List Int32) (v_levels1_colOf : List Int32) (v_levels1_below : List Int32) (v_path : List Int32) (v_best : List Int32) : fX4_weighv1 N x2 v_found v_wrong v_more v_folds v_wanted v_levels1_rows v_levels1_cols v_levels1_wrong v_levels1_more v_levels1_rowOf v_levels1_colOf v_levels1_below v_path v_best = if v_wanted < 0 then
    (fX4_weighv1_19 N x2 v_found v_wrong v_more v_folds v_wanted v_levels1_rows v_levels1_cols v_levels1_wrong v_levels1_more v_levels1_rowOf v_levels1_colOf v_levels1_below v_path v_best)
    else (mm_bd1 (fX5_isTop N v_wanted v_levels1_rows v_levels1_cols v_levels1_rowOf v_levels1_colOf v_levels1_below) (fun (r_2 : Bool) =>
    if r_2 = false then
    (some (v_found, v_wrong, v_more, v_folds, v_best))
    else (fX4_weighv1_19 N x2 v_found v_wrong v_more v_folds v_wanted v_levels1_rows v_levels1_cols v_levels1_wrong v_levels1_more v_levels1_rowOf v_levels1_colOf v_levels1_below v_path v_best))) := rfl

theorem uf_X4_weighv1_19 (N : Nat) (x2 : Int32) (v_found : Bool) (v_wrong : Int32) (v_more : Int32) (v_folds : Int32) (v_wanted : Int32) (v_levels1_rows : Int32) (v_levels1_cols : Int32) (v_levels1_wrong : Int32) (v_levels1_more : Int32) (v_levels1_rowOf : List Int32) (v_levels1_colOf : List Int32) (v_levels1_below : List Int32) (v_path : List Int32) (v_best : List Int32) : fX4_weighv1_19 N x2 v_found v_wrong v_more v_folds v_wanted v_levels1_rows v_levels1_cols v_levels1_wrong v_levels1_more v_levels1_rowOf v_levels1_colOf v_levels1_below v_path v_best = if v_found = false then
    (fX4_weighv1_36 N x2 v_found v_wrong v_more v_folds v_wanted v_levels1_rows v_levels1_cols v_levels1_wrong v_levels1_more v_levels1_rowOf v_levels1_colOf v_levels1_below v_path v_best)
    else (mm_bd1 (fX4_isLessv1 N x2 v_wrong v_more v_folds v_levels1_wrong v_levels1_more) (fun (r_6 : Bool) =>
    if r_6 = false then
    (some (v_found, v_wrong, v_more, v_folds, v_best))
    else (fX4_weighv1_36 N x2 v_found v_wrong v_more v_folds v_wanted v_levels1_rows v_levels1_cols v_levels1_wrong v_levels1_more v_levels1_rowOf v_levels1_colOf v_levels1_below v_path v_best))) := rfl

theorem uf_X4_weighv1_36 (N : Nat) (x2 : Int32) (v_found : Bool) (v_wrong : Int32) (v_more : Int32) (v_folds : Int32) (v_wanted : Int32) (v_levels1_rows : Int32) (v_levels1_cols : Int32) (v_levels1_wrong : Int32) (v_levels1_more : Int32) (v_levels1_rowOf : List Int32) (v_levels1_colOf : List Int32) (v_levels1_below : List Int32) (v_path : List Int32) (v_best : List Int32) : fX4_weighv1_36 N x2 v_found v_wrong v_more v_folds v_wanted v_levels1_rows v_levels1_cols v_levels1_wrong v_levels1_more v_levels1_rowOf v_levels1_colOf v_levels1_below v_path v_best = mm_ck (mm_cok (0 : Int32) (0 : Int32) x2 v_path.length v_best.length) (mm_nm (mm_cp v_path v_best (0 : Int32) (0 : Int32) x2) (fun (l_10 : List Int32) =>
    some (true, v_levels1_wrong, v_levels1_more, x2, l_10))) := rfl

set_option maxHeartbeats 4000000 in
set_option maxRecDepth 20000 in
theorem sf_X4_weighv1 {N : Nat} (hN : 700 ≤ N) {x2 : Int32} {v_found : Bool} {v_wrong : Int32} {v_more : Int32} {v_folds : Int32} {v_wanted : Int32} {v_levels1_rows : Int32} {v_levels1_cols : Int32} {v_levels1_wrong : Int32} {v_levels1_more : Int32} {v_levels1_rowOf : List Int32} {v_levels1_colOf : List Int32} {v_levels1_below : List Int32} {v_path : List Int32} {v_best : List Int32} (h_0 : 0 ≤ v_folds.toInt) (h_1 : v_folds.toInt ≤ 3) (h_2 : v_path.length = 3) (h_3 : v_best.length = 3) (h_4 : 1 ≤ v_levels1_rows.toInt) (h_5 : v_levels1_rows.toInt ≤ 4) (h_6 : 1 ≤ v_levels1_cols.toInt) (h_7 : v_levels1_cols.toInt ≤ 8) (h_8 : v_levels1_rowOf.length = 32) (h_9 : v_levels1_colOf.length = 32) (h_10 : v_levels1_below.length = 32) (h_11 : v_wanted.toInt < 32) (h_12 : 0 ≤ x2.toInt) (h_13 : x2.toInt ≤ 3) : wp (fX4_weighv1 N x2 v_found v_wrong v_more v_folds v_wanted v_levels1_rows v_levels1_cols v_levels1_wrong v_levels1_more v_levels1_rowOf v_levels1_colOf v_levels1_below v_path v_best) (cu5 (fun (wv_found : Bool) (wv_wrong : Int32) (wv_more : Int32) (wv_folds : Int32) (wv_best : List Int32) => 0 ≤ wv_folds.toInt ∧ wv_folds.toInt ≤ 3 ∧ wv_best.length = 3)) := by
  refine wp_of (uf_X4_weighv1 _ _ _ _ _ _ _ _ _ _ _ _ _ _ _ _) ?_
  have n_2 : (0 : Int32).toInt = 0 := by decide
  refine wp_if (fun c_1 => ?_) (fun c_1 => ?_)
  ·
    have dc_1 := i_lt c_1
    refine wp_of (uf_X4_weighv1_19 _ _ _ _ _ _ _ _ _ _ _ _ _ _ _ _) ?_
    refine wp_if (fun c_3 => ?_) (fun c_3 => ?_)
    ·
      refine wp_of (uf_X4_weighv1_36 _ _ _ _ _ _ _ _ _ _ _ _ _ _ _ _) ?_
      have hc_4 : (mm_cok (0 : Int32) (0 : Int32) x2 v_path.length v_best.length) = true := i_cok (by omega) (by omega) (by omega) (by omega) (by omega)
      refine wp_ck hc_4 ?_
      refine wp_nm (fun l_10 h_l_10 => ?_)
      have nl_l_10 : l_10.length = 3 := by rw [h_l_10, cp_len hc_4]; assumption
      exact wp_so5 ⟨h_12, h_13, nl_l_10⟩
    ·
      refine wp_bd1 (sf_X4_isLessv1 hN h_0 h_1) (fun r_6 _ => ?_)
      refine wp_if (fun c_5 => ?_) (fun c_5 => ?_)
      ·
        exact wp_so5 ⟨h_0, h_1, h_3⟩
      ·
        refine wp_of (uf_X4_weighv1_36 _ _ _ _ _ _ _ _ _ _ _ _ _ _ _ _) ?_
        have hc_6 : (mm_cok (0 : Int32) (0 : Int32) x2 v_path.length v_best.length) = true := i_cok (by omega) (by omega) (by omega) (by omega) (by omega)
        refine wp_ck hc_6 ?_
        refine wp_nm (fun l_10__7 h_l_10__7 => ?_)
        have nl_l_10__7 : l_10__7.length = 3 := by rw [h_l_10__7, cp_len hc_6]; assumption
        exact wp_so5 ⟨h_12, h_13, nl_l_10__7⟩
  ·
    have dc_1 := i_nlt c_1
    refine wp_bd1 (sf_X5_isTop hN h_4 h_5 h_6 h_7 h_8 h_9 h_10 (by omega) h_11) (fun r_2 _ => ?_)
    refine wp_if (fun c_8 => ?_) (fun c_8 => ?_)
    ·
      exact wp_so5 ⟨h_0, h_1, h_3⟩
    ·
      refine wp_of (uf_X4_weighv1_19 _ _ _ _ _ _ _ _ _ _ _ _ _ _ _ _) ?_
      refine wp_if (fun c_9 => ?_) (fun c_9 => ?_)
      ·
        refine wp_of (uf_X4_weighv1_36 _ _ _ _ _ _ _ _ _ _ _ _ _ _ _ _) ?_
        have hc_10 : (mm_cok (0 : Int32) (0 : Int32) x2 v_path.length v_best.length) = true := i_cok (by omega) (by omega) (by omega) (by omega) (by omega)
        refine wp_ck hc_10 ?_
        refine wp_nm (fun l_10__11 h_l_10__11 => ?_)
        have nl_l_10__11 : l_10__11.length = 3 := by rw [h_l_10__11, cp_len hc_10]; assumption
        exact wp_so5 ⟨h_12, h_13, nl_l_10__11⟩
      ·
        refine wp_bd1 (sf_X4_isLessv1 hN h_0 h_1) (fun r_6__12 _ => ?_)
        refine wp_if (fun c_13 => ?_) (fun c_13 => ?_)
        ·
          exact wp_so5 ⟨h_0, h_1, h_3⟩
        ·
          refine wp_of (uf_X4_weighv1_36 _ _ _ _ _ _ _ _ _ _ _ _ _ _ _ _) ?_
          have hc_14 : (mm_cok (0 : Int32) (0 : Int32) x2 v_path.length v_best.length) = true := i_cok (by omega) (by omega) (by omega) (by omega) (by omega)
          refine wp_ck hc_14 ?_
          refine wp_nm (fun l_10__15 h_l_10__15 => ?_)
          have nl_l_10__15 : l_10__15.length = 3 := by rw [h_l_10__15, cp_len hc_14]; assumption
          exact wp_so5 ⟨h_12, h_13, nl_l_10__15⟩

theorem uf_X4_weighv2 (N : Nat) (x2 : Int32) (v_found : Bool) (v_wrong : Int32) (v_more : Int32) (v_folds : Int32) (v_wanted : Int32) (v_levels2_rows : Int32) (v_levels2_cols : Int32) (v_levels2_wrong : Int32) (v_levels2_more : Int32) (v_levels2_rowOf : List Int32) (v_levels2_colOf : List Int32) (v_levels2_below : List Int32) (v_path : List Int32) (v_best : List Int32) : fX4_weighv2 N x2 v_found v_wrong v_more v_folds v_wanted v_levels2_rows v_levels2_cols v_levels2_wrong v_levels2_more v_levels2_rowOf v_levels2_colOf v_levels2_below v_path v_best = if v_wanted < 0 then
    (fX4_weighv2_19 N x2 v_found v_wrong v_more v_folds v_wanted v_levels2_rows v_levels2_cols v_levels2_wrong v_levels2_more v_levels2_rowOf v_levels2_colOf v_levels2_below v_path v_best)
    else (mm_bd1 (fX5_isTop N v_wanted v_levels2_rows v_levels2_cols v_levels2_rowOf v_levels2_colOf v_levels2_below) (fun (r_2 : Bool) =>
    if r_2 = false then
    (some (v_found, v_wrong, v_more, v_folds, v_best))
    else (fX4_weighv2_19 N x2 v_found v_wrong v_more v_folds v_wanted v_levels2_rows v_levels2_cols v_levels2_wrong v_levels2_more v_levels2_rowOf v_levels2_colOf v_levels2_below v_path v_best))) := rfl

theorem uf_X4_weighv2_19 (N : Nat) (x2 : Int32) (v_found : Bool) (v_wrong : Int32) (v_more : Int32) (v_folds : Int32) (v_wanted : Int32) (v_levels2_rows : Int32) (v_levels2_cols : Int32) (v_levels2_wrong : Int32) (v_levels2_more : Int32) (v_levels2_rowOf : List Int32) (v_levels2_colOf : List Int32) (v_levels2_below : List Int32) (v_path : List Int32) (v_best : List Int32) : fX4_weighv2_19 N x2 v_found v_wrong v_more v_folds v_wanted v_levels2_rows v_levels2_cols v_levels2_wrong v_levels2_more v_levels2_rowOf v_levels2_colOf v_levels2_below v_path v_best = if v_found = false then
    (fX4_weighv2_36 N x2 v_found v_wrong v_more v_folds v_wanted v_levels2_rows v_levels2_cols v_levels2_wrong v_levels2_more v_levels2_rowOf v_levels2_colOf v_levels2_below v_path v_best)
    else (mm_bd1 (fX4_isLessv2 N x2 v_wrong v_more v_folds v_levels2_wrong v_levels2_more) (fun (r_6 : Bool) =>
    if r_6 = false then
    (some (v_found, v_wrong, v_more, v_folds, v_best))
    else (fX4_weighv2_36 N x2 v_found v_wrong v_more v_folds v_wanted v_levels2_rows v_levels2_cols v_levels2_wrong v_levels2_more v_levels2_rowOf v_levels2_colOf v_levels2_below v_path v_best))) := rfl

theorem uf_X4_weighv2_36 (N : Nat) (x2 : Int32) (v_found : Bool) (v_wrong : Int32) (v_more : Int32) (v_folds : Int32) (v_wanted : Int32) (v_levels2_rows : Int32) (v_levels2_cols : Int32) (v_levels2_wrong : Int32) (v_levels2_more : Int32) (v_levels2_rowOf : List Int32) (v_levels2_colOf : List Int32) (v_levels2_below : List Int32) (v_path : List Int32) (v_best : List Int32) : fX4_weighv2_36 N x2 v_found v_wrong v_more v_folds v_wanted v_levels2_rows v_levels2_cols v_levels2_wrong v_levels2_more v_levels2_rowOf v_levels2_colOf v_levels2_below v_path v_best = mm_ck (mm_cok (0 : Int32) (0 : Int32) x2 v_path.length v_best.length) (mm_nm (mm_cp v_path v_best (0 : Int32) (0 : Int32) x2) (fun (l_10 : List Int32) =>
    some (true, v_levels2_wrong, v_levels2_more, x2, l_10))) := rfl

set_option maxHeartbeats 4000000 in
set_option maxRecDepth 20000 in
theorem sf_X4_weighv2 {N : Nat} (hN : 700 ≤ N) {x2 : Int32} {v_found : Bool} {v_wrong : Int32} {v_more : Int32} {v_folds : Int32} {v_wanted : Int32} {v_levels2_rows : Int32} {v_levels2_cols : Int32} {v_levels2_wrong : Int32} {v_levels2_more : Int32} {v_levels2_rowOf : List Int32} {v_levels2_colOf : List Int32} {v_levels2_below : List Int32} {v_path : List Int32} {v_best : List Int32} (h_0 : 0 ≤ v_folds.toInt) (h_1 : v_folds.toInt ≤ 3) (h_2 : v_path.length = 3) (h_3 : v_best.length = 3) (h_4 : 1 ≤ v_levels2_rows.toInt) (h_5 : v_levels2_rows.toInt ≤ 4) (h_6 : 1 ≤ v_levels2_cols.toInt) (h_7 : v_levels2_cols.toInt ≤ 8) (h_8 : v_levels2_rowOf.length = 32) (h_9 : v_levels2_colOf.length = 32) (h_10 : v_levels2_below.length = 32) (h_11 : v_wanted.toInt < 32) (h_12 : 0 ≤ x2.toInt) (h_13 : x2.toInt ≤ 3) : wp (fX4_weighv2 N x2 v_found v_wrong v_more v_folds v_wanted v_levels2_rows v_levels2_cols v_levels2_wrong v_levels2_more v_levels2_rowOf v_levels2_colOf v_levels2_below v_path v_best) (cu5 (fun (wv_found : Bool) (wv_wrong : Int32) (wv_more : Int32) (wv_folds : Int32) (wv_best : List Int32) => 0 ≤ wv_folds.toInt ∧ wv_folds.toInt ≤ 3 ∧ wv_best.length = 3)) := by
  refine wp_of (uf_X4_weighv2 _ _ _ _ _ _ _ _ _ _ _ _ _ _ _ _) ?_
  have n_2 : (0 : Int32).toInt = 0 := by decide
  refine wp_if (fun c_1 => ?_) (fun c_1 => ?_)
  ·
    have dc_1 := i_lt c_1
    refine wp_of (uf_X4_weighv2_19 _ _ _ _ _ _ _ _ _ _ _ _ _ _ _ _) ?_
    refine wp_if (fun c_3 => ?_) (fun c_3 => ?_)
    ·
      refine wp_of (uf_X4_weighv2_36 _ _ _ _ _ _ _ _ _ _ _ _ _ _ _ _) ?_
      have hc_4 : (mm_cok (0 : Int32) (0 : Int32) x2 v_path.length v_best.length) = true := i_cok (by omega) (by omega) (by omega) (by omega) (by omega)
      refine wp_ck hc_4 ?_
      refine wp_nm (fun l_10 h_l_10 => ?_)
      have nl_l_10 : l_10.length = 3 := by rw [h_l_10, cp_len hc_4]; assumption
      exact wp_so5 ⟨h_12, h_13, nl_l_10⟩
    ·
      refine wp_bd1 (sf_X4_isLessv2 hN h_0 h_1) (fun r_6 _ => ?_)
      refine wp_if (fun c_5 => ?_) (fun c_5 => ?_)
      ·
        exact wp_so5 ⟨h_0, h_1, h_3⟩
      ·
        refine wp_of (uf_X4_weighv2_36 _ _ _ _ _ _ _ _ _ _ _ _ _ _ _ _) ?_
        have hc_6 : (mm_cok (0 : Int32) (0 : Int32) x2 v_path.length v_best.length) = true := i_cok (by omega) (by omega) (by omega) (by omega) (by omega)
        refine wp_ck hc_6 ?_
        refine wp_nm (fun l_10__7 h_l_10__7 => ?_)
        have nl_l_10__7 : l_10__7.length = 3 := by rw [h_l_10__7, cp_len hc_6]; assumption
        exact wp_so5 ⟨h_12, h_13, nl_l_10__7⟩
  ·
    have dc_1 := i_nlt c_1
    refine wp_bd1 (sf_X5_isTop hN h_4 h_5 h_6 h_7 h_8 h_9 h_10 (by omega) h_11) (fun r_2 _ => ?_)
    refine wp_if (fun c_8 => ?_) (fun c_8 => ?_)
    ·
      exact wp_so5 ⟨h_0, h_1, h_3⟩
    ·
      refine wp_of (uf_X4_weighv2_19 _ _ _ _ _ _ _ _ _ _ _ _ _ _ _ _) ?_
      refine wp_if (fun c_9 => ?_) (fun c_9 => ?_)
      ·
        refine wp_of (uf_X4_weighv2_36 _ _ _ _ _ _ _ _ _ _ _ _ _ _ _ _) ?_
        have hc_10 : (mm_cok (0 : Int32) (0 : Int32) x2 v_path.length v_best.length) = true := i_cok (by omega) (by omega) (by omega) (by omega) (by omega)
        refine wp_ck hc_10 ?_
        refine wp_nm (fun l_10__11 h_l_10__11 => ?_)
        have nl_l_10__11 : l_10__11.length = 3 := by rw [h_l_10__11, cp_len hc_10]; assumption
        exact wp_so5 ⟨h_12, h_13, nl_l_10__11⟩
      ·
        refine wp_bd1 (sf_X4_isLessv2 hN h_0 h_1) (fun r_6__12 _ => ?_)
        refine wp_if (fun c_13 => ?_) (fun c_13 => ?_)
        ·
          exact wp_so5 ⟨h_0, h_1, h_3⟩
        ·
          refine wp_of (uf_X4_weighv2_36 _ _ _ _ _ _ _ _ _ _ _ _ _ _ _ _) ?_
          have hc_14 : (mm_cok (0 : Int32) (0 : Int32) x2 v_path.length v_best.length) = true := i_cok (by omega) (by omega) (by omega) (by omega) (by omega)
          refine wp_ck hc_14 ?_
          refine wp_nm (fun l_10__15 h_l_10__15 => ?_)
          have nl_l_10__15 : l_10__15.length = 3 := by rw [h_l_10__15, cp_len hc_14]; assumption
          exact wp_so5 ⟨h_12, h_13, nl_l_10__15⟩

theorem uf_X4_weighv3 (N : Nat) (x2 : Int32) (v_found : Bool) (v_wrong : Int32) (v_more : Int32) (v_folds : Int32) (v_wanted : Int32) (v_levels3_rows : Int32) (v_levels3_cols : Int32) (v_levels3_wrong : Int32) (v_levels3_more : Int32) (v_levels3_rowOf : List Int32) (v_levels3_colOf : List Int32) (v_levels3_below : List Int32) (v_path : List Int32) (v_best : List Int32) : fX4_weighv3 N x2 v_found v_wrong v_more v_folds v_wanted v_levels3_rows v_levels3_cols v_levels3_wrong v_levels3_more v_levels3_rowOf v_levels3_colOf v_levels3_below v_path v_best = if v_wanted < 0 then
    (fX4_weighv3_19 N x2 v_found v_wrong v_more v_folds v_wanted v_levels3_rows v_levels3_cols v_levels3_wrong v_levels3_more v_levels3_rowOf v_levels3_colOf v_levels3_below v_path v_best)
    else (mm_bd1 (fX5_isTop N v_wanted v_levels3_rows v_levels3_cols v_levels3_rowOf v_levels3_colOf v_levels3_below) (fun (r_2 : Bool) =>
    if r_2 = false then
    (some (v_found, v_wrong, v_more, v_folds, v_best))
    else (fX4_weighv3_19 N x2 v_found v_wrong v_more v_folds v_wanted v_levels3_rows v_levels3_cols v_levels3_wrong v_levels3_more v_levels3_rowOf v_levels3_colOf v_levels3_below v_path v_best))) := rfl

theorem uf_X4_weighv3_19 (N : Nat) (x2 : Int32) (v_found : Bool) (v_wrong : Int32) (v_more : Int32) (v_folds : Int32) (v_wanted : Int32) (v_levels3_rows : Int32) (v_levels3_cols : Int32) (v_levels3_wrong : Int32) (v_levels3_more : Int32) (v_levels3_rowOf : List Int32) (v_levels3_colOf : List Int32) (v_levels3_below : List Int32) (v_path : List Int32) (v_best : List Int32) : fX4_weighv3_19 N x2 v_found v_wrong v_more v_folds v_wanted v_levels3_rows v_levels3_cols v_levels3_wrong v_levels3_more v_levels3_rowOf v_levels3_colOf v_levels3_below v_path v_best = if v_found = false then
    (fX4_weighv3_36 N x2 v_found v_wrong v_more v_folds v_wanted v_levels3_rows v_levels3_cols v_levels3_wrong v_levels3_more v_levels3_rowOf v_levels3_colOf v_levels3_below v_path v_best)
    else (mm_bd1 (fX4_isLessv3 N x2 v_wrong v_more v_folds v_levels3_wrong v_levels3_more) (fun (r_6 : Bool) =>
    if r_6 = false then
    (some (v_found, v_wrong, v_more, v_folds, v_best))
    else (fX4_weighv3_36 N x2 v_found v_wrong v_more v_folds v_wanted v_levels3_rows v_levels3_cols v_levels3_wrong v_levels3_more v_levels3_rowOf v_levels3_colOf v_levels3_below v_path v_best))) := rfl

theorem uf_X4_weighv3_36 (N : Nat) (x2 : Int32) (v_found : Bool) (v_wrong : Int32) (v_more : Int32) (v_folds : Int32) (v_wanted : Int32) (v_levels3_rows : Int32) (v_levels3_cols : Int32) (v_levels3_wrong : Int32) (v_levels3_more : Int32) (v_levels3_rowOf : List Int32) (v_levels3_colOf : List Int32) (v_levels3_below : List Int32) (v_path : List Int32) (v_best : List Int32) : fX4_weighv3_36 N x2 v_found v_wrong v_more v_folds v_wanted v_levels3_rows v_levels3_cols v_levels3_wrong v_levels3_more v_levels3_rowOf v_levels3_colOf v_levels3_below v_path v_best = mm_ck (mm_cok (0 : Int32) (0 : Int32) x2 v_path.length v_best.length) (mm_nm (mm_cp v_path v_best (0 : Int32) (0 : Int32) x2) (fun (l_10 : List Int32) =>
    some (true, v_levels3_wrong, v_levels3_more, x2, l_10))) := rfl

set_option maxHeartbeats 4000000 in
set_option maxRecDepth 20000 in
theorem sf_X4_weighv3 {N : Nat} (hN : 700 ≤ N) {x2 : Int32} {v_found : Bool} {v_wrong : Int32} {v_more : Int32} {v_folds : Int32} {v_wanted : Int32} {v_levels3_rows : Int32} {v_levels3_cols : Int32} {v_levels3_wrong : Int32} {v_levels3_more : Int32} {v_levels3_rowOf : List Int32} {v_levels3_colOf : List Int32} {v_levels3_below : List Int32} {v_path : List Int32} {v_best : List Int32} (h_0 : 0 ≤ v_folds.toInt) (h_1 : v_folds.toInt ≤ 3) (h_2 : v_path.length = 3) (h_3 : v_best.length = 3) (h_4 : 1 ≤ v_levels3_rows.toInt) (h_5 : v_levels3_rows.toInt ≤ 4) (h_6 : 1 ≤ v_levels3_cols.toInt) (h_7 : v_levels3_cols.toInt ≤ 8) (h_8 : v_levels3_rowOf.length = 32) (h_9 : v_levels3_colOf.length = 32) (h_10 : v_levels3_below.length = 32) (h_11 : v_wanted.toInt < 32) (h_12 : 0 ≤ x2.toInt) (h_13 : x2.toInt ≤ 3) : wp (fX4_weighv3 N x2 v_found v_wrong v_more v_folds v_wanted v_levels3_rows v_levels3_cols v_levels3_wrong v_levels3_more v_levels3_rowOf v_levels3_colOf v_levels3_below v_path v_best) (cu5 (fun (wv_found : Bool) (wv_wrong : Int32) (wv_more : Int32) (wv_folds : Int32) (wv_best : List Int32) => 0 ≤ wv_folds.toInt ∧ wv_folds.toInt ≤ 3 ∧ wv_best.length = 3)) := by
  refine wp_of (uf_X4_weighv3 _ _ _ _ _ _ _ _ _ _ _ _ _ _ _ _) ?_
  have n_2 : (0 : Int32).toInt = 0 := by decide
  refine wp_if (fun c_1 => ?_) (fun c_1 => ?_)
  ·
    have dc_1 := i_lt c_1
    refine wp_of (uf_X4_weighv3_19 _ _ _ _ _ _ _ _ _ _ _ _ _ _ _ _) ?_
    refine wp_if (fun c_3 => ?_) (fun c_3 => ?_)
    ·
      refine wp_of (uf_X4_weighv3_36 _ _ _ _ _ _ _ _ _ _ _ _ _ _ _ _) ?_
      have hc_4 : (mm_cok (0 : Int32) (0 : Int32) x2 v_path.length v_best.length) = true := i_cok (by omega) (by omega) (by omega) (by omega) (by omega)
      refine wp_ck hc_4 ?_
      refine wp_nm (fun l_10 h_l_10 => ?_)
      have nl_l_10 : l_10.length = 3 := by rw [h_l_10, cp_len hc_4]; assumption
      exact wp_so5 ⟨h_12, h_13, nl_l_10⟩
    ·
      refine wp_bd1 (sf_X4_isLessv3 hN h_0 h_1) (fun r_6 _ => ?_)
      refine wp_if (fun c_5 => ?_) (fun c_5 => ?_)
      ·
        exact wp_so5 ⟨h_0, h_1, h_3⟩
      ·
        refine wp_of (uf_X4_weighv3_36 _ _ _ _ _ _ _ _ _ _ _ _ _ _ _ _) ?_
        have hc_6 : (mm_cok (0 : Int32) (0 : Int32) x2 v_path.length v_best.length) = true := i_cok (by omega) (by omega) (by omega) (by omega) (by omega)
        refine wp_ck hc_6 ?_
        refine wp_nm (fun l_10__7 h_l_10__7 => ?_)
        have nl_l_10__7 : l_10__7.length = 3 := by rw [h_l_10__7, cp_len hc_6]; assumption
        exact wp_so5 ⟨h_12, h_13, nl_l_10__7⟩
  ·
    have dc_1 := i_nlt c_1
    refine wp_bd1 (sf_X5_isTop hN h_4 h_5 h_6 h_7 h_8 h_9 h_10 (by omega) h_11) (fun r_2 _ => ?_)
    refine wp_if (fun c_8 => ?_) (fun c_8 => ?_)
    ·
      exact wp_so5 ⟨h_0, h_1, h_3⟩
    ·
      refine wp_of (uf_X4_weighv3_19 _ _ _ _ _ _ _ _ _ _ _ _ _ _ _ _) ?_
      refine wp_if (fun c_9 => ?_) (fun c_9 => ?_)
      ·
        refine wp_of (uf_X4_weighv3_36 _ _ _ _ _ _ _ _ _ _ _ _ _ _ _ _) ?_
        have hc_10 : (mm_cok (0 : Int32) (0 : Int32) x2 v_path.length v_best.length) = true := i_cok (by omega) (by omega) (by omega) (by omega) (by omega)
        refine wp_ck hc_10 ?_
        refine wp_nm (fun l_10__11 h_l_10__11 => ?_)
        have nl_l_10__11 : l_10__11.length = 3 := by rw [h_l_10__11, cp_len hc_10]; assumption
        exact wp_so5 ⟨h_12, h_13, nl_l_10__11⟩
      ·
        refine wp_bd1 (sf_X4_isLessv3 hN h_0 h_1) (fun r_6__12 _ => ?_)
        refine wp_if (fun c_13 => ?_) (fun c_13 => ?_)
        ·
          exact wp_so5 ⟨h_0, h_1, h_3⟩
        ·
          refine wp_of (uf_X4_weighv3_36 _ _ _ _ _ _ _ _ _ _ _ _ _ _ _ _) ?_
          have hc_14 : (mm_cok (0 : Int32) (0 : Int32) x2 v_path.length v_best.length) = true := i_cok (by omega) (by omega) (by omega) (by omega) (by omega)
          refine wp_ck hc_14 ?_
          refine wp_nm (fun l_10__15 h_l_10__15 => ?_)
          have nl_l_10__15 : l_10__15.length = 3 := by rw [h_l_10__15, cp_len hc_14]; assumption
          exact wp_so5 ⟨h_12, h_13, nl_l_10__15⟩
