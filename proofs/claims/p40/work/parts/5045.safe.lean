/-! safe -/
theorem uf_X8_crosses (N : Nat) (x1 : Int32) (x2 : Int32) (v_strip_at : List Int32) : fX8_crosses N x1 x2 v_strip_at = mm_bd1 (fX8_isStrip N x1) (fun (r_1 : Bool) =>
    if r_1 = false then
    (some ((-1 : Int32), v_strip_at))
    else (mm_bd2 (fX7_lay N x1 x2 v_strip_at) (fun (r_4 : Bool) (w_5 : List Int32) =>
    if r_4 = false then
    (some ((-1 : Int32), w_5))
    else (mm_bd1 (fX7_firstCross N x1 w_5) (fun (r_8 : Int32) =>
    if 0 ≤ r_8 then
    (some (r_8, w_5))
    else (some ((-2 : Int32), w_5))))))) := rfl

theorem uf_X8_isStrip (N : Nat) (x0 : Int32) : fX8_isStrip N x0 = if x0 < (2 : Int32) then
    (some (false))
    else (if (7 : Int32) < x0 then
    (some (false))
    else (some (true))) := rfl

set_option maxHeartbeats 4000000 in
set_option maxRecDepth 20000 in
theorem sf_X8_crosses {N : Nat} (hN : 700 ≤ N) {x1 : Int32} {x2 : Int32} {v_strip_at : List Int32} (h_0 : v_strip_at.length = 7) : wp (fX8_crosses N x1 x2 v_strip_at) (cu2 (fun (r : Int32) (wv_strip_at : List Int32) => wv_strip_at.length = 7)) := by
  refine wp_of (uf_X8_crosses _ _ _ _) ?_
  refine wp_in1 ?_
  refine wp_of (uf_X8_isStrip _ _) ?_
  have n_2 : (2 : Int32).toInt = 2 := by decide
  refine wp_if (fun c_1 => ?_) (fun c_1 => ?_)
  ·
    have dc_1 := i_lt c_1
    refine wp_so1 ?_
    show wp _ _
    refine wp_ifp (by decide) ?_
    exact wp_so2 h_0
  ·
    have dc_1 := i_nlt c_1
    have n_4 : (7 : Int32).toInt = 7 := by decide
    refine wp_if (fun c_3 => ?_) (fun c_3 => ?_)
    ·
      have dc_3 := i_lt c_3
      refine wp_so1 ?_
      show wp _ _
      refine wp_ifp (by decide) ?_
      exact wp_so2 h_0
    ·
      have dc_3 := i_nlt c_3
      refine wp_so1 ?_
      show wp _ _
      refine wp_ifn (by decide) ?_
      refine wp_bd2 (sf_X7_lay hN h_0 (by omega) (by omega)) (fun r_4 w_5 q_5 => ?_)
      refine wp_if (fun c_6 => ?_) (fun c_6 => ?_)
      ·
        exact wp_so2 q_5
      ·
        refine wp_bd1 (sf_X7_firstCross hN q_5 (by omega) (by omega)) (fun r_8 _ => ?_)
        have n_8 : (0 : Int32).toInt = 0 := by decide
        refine wp_if (fun c_7 => ?_) (fun c_7 => ?_)
        ·
          have dc_7 := i_le c_7
          exact wp_so2 q_5
        ·
          have dc_7 := i_nle c_7
          exact wp_so2 q_5

theorem uf_X8_orders (N : Nat) (x1 : Int32) (x2 : Int32) (v_strip_list : List Int32) (v_strip_found : List Int32) (v_strip_at : List Int32) : fX8_orders N x1 x2 v_strip_list v_strip_found v_strip_at = mm_bd1 (fX8_isStrip N x1) (fun (r_1 : Bool) =>
    if r_1 = false then
    (some ((-1 : Int32), v_strip_list, v_strip_found, v_strip_at))
    else (if x2 = (-1 : Int32) then
    (mm_bd4 (fX7_howMany N x1 v_strip_list v_strip_found v_strip_at) (fun (r_10 : Int32) (w_11 : List Int32) (w_12 : List Int32) (w_13 : List Int32) =>
    some (r_10, w_11, w_12, w_13)))
    else (mm_bd4 (fX7_orderAt N x1 x2 v_strip_list v_strip_found v_strip_at) (fun (r_5 : Int32) (w_6 : List Int32) (w_7 : List Int32) (w_8 : List Int32) =>
    some (r_5, w_6, w_7, w_8))))) := rfl

set_option maxHeartbeats 4000000 in
set_option maxRecDepth 20000 in
theorem sf_X8_orders {N : Nat} (hN : 700 ≤ N) {x1 : Int32} {x2 : Int32} {v_strip_list : List Int32} {v_strip_found : List Int32} {v_strip_at : List Int32} (h_0 : v_strip_list.length = 680) (h_1 : v_strip_found.length = 8) (h_2 : v_strip_at.length = 7) (h_3 : fnd v_strip_found) : wp (fX8_orders N x1 x2 v_strip_list v_strip_found v_strip_at) (cu4 (fun (r : Int32) (wv_strip_list : List Int32) (wv_strip_found : List Int32) (wv_strip_at : List Int32) => wv_strip_list.length = 680 ∧ wv_strip_found.length = 8 ∧ wv_strip_at.length = 7 ∧ fnd wv_strip_found)) := by
  refine wp_of (uf_X8_orders _ _ _ _ _ _) ?_
  refine wp_in1 ?_
  refine wp_of (uf_X8_isStrip _ _) ?_
  have n_2 : (2 : Int32).toInt = 2 := by decide
  refine wp_if (fun c_1 => ?_) (fun c_1 => ?_)
  ·
    have dc_1 := i_lt c_1
    refine wp_so1 ?_
    show wp _ _
    refine wp_ifp (by decide) ?_
    exact wp_so4 ⟨h_0, h_1, h_2, h_3⟩
  ·
    have dc_1 := i_nlt c_1
    have n_4 : (7 : Int32).toInt = 7 := by decide
    refine wp_if (fun c_3 => ?_) (fun c_3 => ?_)
    ·
      have dc_3 := i_lt c_3
      refine wp_so1 ?_
      show wp _ _
      refine wp_ifp (by decide) ?_
      exact wp_so4 ⟨h_0, h_1, h_2, h_3⟩
    ·
      have dc_3 := i_nlt c_3
      refine wp_so1 ?_
      show wp _ _
      refine wp_ifn (by decide) ?_
      have n_6 : (-1 : Int32).toInt = -1 := by decide
      refine wp_if (fun c_5 => ?_) (fun c_5 => ?_)
      ·
        have dc_5 := i_eq c_5
        refine wp_bd4 (sf_X7_howMany hN h_0 h_1 h_2 h_3 (by omega) (by omega)) (fun r_10 w_11 w_12 w_13 ⟨q_7, q_8, q_9, q_10, q_11, q_12⟩ => ?_)
        exact wp_so4 ⟨q_9, q_10, q_11, q_12⟩
      ·
        have dc_5 := i_ne c_5
        refine wp_bd4 (sf_X7_orderAt hN h_0 h_1 h_2 h_3 (by omega) (by omega)) (fun r_5 w_6 w_7 w_8 ⟨q_13, q_14, q_15, q_16⟩ => ?_)
        exact wp_so4 ⟨q_13, q_14, q_15, q_16⟩

theorem uf_X8_bends (N : Nat) (x1 : Int32) (x2 : Int32) (v_strip_at : List Int32) : fX8_bends N x1 x2 v_strip_at = mm_bd1 (fX8_isStrip N x1) (fun (r_1 : Bool) =>
    if r_1 = false then
    (some ((-1 : Int32), v_strip_at))
    else (mm_bd2 (fX7_lay N x1 x2 v_strip_at) (fun (r_4 : Bool) (w_5 : List Int32) =>
    if r_4 = false then
    (some ((-1 : Int32), w_5))
    else (mm_bd1 (fX7_firstCross N x1 w_5) (fun (r_8 : Int32) =>
    if r_8 < 0 then
    (mm_bd1 (fX7_bits N x1 w_5) (fun (r_11 : Int32) =>
    some (r_11, w_5)))
    else (some ((-5 : Int32), w_5))))))) := rfl

set_option maxHeartbeats 4000000 in
set_option maxRecDepth 20000 in
theorem sf_X8_bends {N : Nat} (hN : 700 ≤ N) {x1 : Int32} {x2 : Int32} {v_strip_at : List Int32} (h_0 : v_strip_at.length = 7) : wp (fX8_bends N x1 x2 v_strip_at) (cu2 (fun (r : Int32) (wv_strip_at : List Int32) => wv_strip_at.length = 7)) := by
  refine wp_of (uf_X8_bends _ _ _ _) ?_
  refine wp_in1 ?_
  refine wp_of (uf_X8_isStrip _ _) ?_
  have n_2 : (2 : Int32).toInt = 2 := by decide
  refine wp_if (fun c_1 => ?_) (fun c_1 => ?_)
  ·
    have dc_1 := i_lt c_1
    refine wp_so1 ?_
    show wp _ _
    refine wp_ifp (by decide) ?_
    exact wp_so2 h_0
  ·
    have dc_1 := i_nlt c_1
    have n_4 : (7 : Int32).toInt = 7 := by decide
    refine wp_if (fun c_3 => ?_) (fun c_3 => ?_)
    ·
      have dc_3 := i_lt c_3
      refine wp_so1 ?_
      show wp _ _
      refine wp_ifp (by decide) ?_
      exact wp_so2 h_0
    ·
      have dc_3 := i_nlt c_3
      refine wp_so1 ?_
      show wp _ _
      refine wp_ifn (by decide) ?_
      refine wp_bd2 (sf_X7_lay hN h_0 (by omega) (by omega)) (fun r_4 w_5 q_5 => ?_)
      refine wp_if (fun c_6 => ?_) (fun c_6 => ?_)
      ·
        exact wp_so2 q_5
      ·
        refine wp_bd1 (sf_X7_firstCross hN q_5 (by omega) (by omega)) (fun r_8 _ => ?_)
        have n_8 : (0 : Int32).toInt = 0 := by decide
        refine wp_if (fun c_7 => ?_) (fun c_7 => ?_)
        ·
          have dc_7 := i_lt c_7
          refine wp_bd1 (sf_X7_bits hN q_5 (by omega) (by omega)) (fun r_11 _ => ?_)
          exact wp_so2 q_5
        ·
          have dc_7 := i_nlt c_7
          exact wp_so2 q_5

theorem uf_X8_by (N : Nat) (x1 : Int32) (x2 : Int32) (x3 : Int32) (v_strip_list : List Int32) (v_strip_found : List Int32) (v_strip_at : List Int32) : fX8_by N x1 x2 x3 v_strip_list v_strip_found v_strip_at = mm_bd1 (fX8_isStrip N x1) (fun (r_1 : Bool) =>
    if r_1 = false then
    (some ((-1 : Int32), v_strip_list, v_strip_found, v_strip_at))
    else (if x2 < 0 then
    (some ((-1 : Int32), v_strip_list, v_strip_found, v_strip_at))
    else (if ((1 : Int32) <<< ((x1 - (1 : Int32)) &&& 31)) ≤ x2 then
    (some ((-1 : Int32), v_strip_list, v_strip_found, v_strip_at))
    else (if x3 < 0 then
    (some ((-1 : Int32), v_strip_list, v_strip_found, v_strip_at))
    else (if x3 ≤ (1 : Int32) then
    (if x3 = 0 then
    (mm_bd4 (fX7_howManyBent N x1 x2 v_strip_list v_strip_found v_strip_at) (fun (r_15 : Int32) (w_16 : List Int32) (w_17 : List Int32) (w_18 : List Int32) =>
    some (r_15, w_16, w_17, w_18)))
    else (mm_bd4 (fX7_firstBent N x1 x2 v_strip_list v_strip_found v_strip_at) (fun (r_9 : Int32) (w_10 : List Int32) (w_11 : List Int32) (w_12 : List Int32) =>
    if 0 ≤ r_9 then
    (some (r_9, w_10, w_11, w_12))
    else (some ((-2 : Int32), w_10, w_11, w_12)))))
    else (some ((-1 : Int32), v_strip_list, v_strip_found, v_strip_at))))))) := rfl

set_option maxHeartbeats 4000000 in
set_option maxRecDepth 20000 in
theorem sf_X8_by {N : Nat} (hN : 700 ≤ N) {x1 : Int32} {x2 : Int32} {x3 : Int32} {v_strip_list : List Int32} {v_strip_found : List Int32} {v_strip_at : List Int32} (h_0 : v_strip_list.length = 680) (h_1 : v_strip_found.length = 8) (h_2 : v_strip_at.length = 7) (h_3 : fnd v_strip_found) : wp (fX8_by N x1 x2 x3 v_strip_list v_strip_found v_strip_at) (cu4 (fun (r : Int32) (wv_strip_list : List Int32) (wv_strip_found : List Int32) (wv_strip_at : List Int32) => wv_strip_list.length = 680 ∧ wv_strip_found.length = 8 ∧ wv_strip_at.length = 7 ∧ fnd wv_strip_found)) := by
  refine wp_of (uf_X8_by _ _ _ _ _ _ _) ?_
  refine wp_in1 ?_
  refine wp_of (uf_X8_isStrip _ _) ?_
  have n_2 : (2 : Int32).toInt = 2 := by decide
  refine wp_if (fun c_1 => ?_) (fun c_1 => ?_)
  ·
    have dc_1 := i_lt c_1
    refine wp_so1 ?_
    show wp _ _
    refine wp_ifp (by decide) ?_
    exact wp_so4 ⟨h_0, h_1, h_2, h_3⟩
  ·
    have dc_1 := i_nlt c_1
    have n_4 : (7 : Int32).toInt = 7 := by decide
    refine wp_if (fun c_3 => ?_) (fun c_3 => ?_)
    ·
      have dc_3 := i_lt c_3
      refine wp_so1 ?_
      show wp _ _
      refine wp_ifp (by decide) ?_
      exact wp_so4 ⟨h_0, h_1, h_2, h_3⟩
    ·
      have dc_3 := i_nlt c_3
      refine wp_so1 ?_
      show wp _ _
      refine wp_ifn (by decide) ?_
      have n_6 : (0 : Int32).toInt = 0 := by decide
      refine wp_if (fun c_5 => ?_) (fun c_5 => ?_)
      ·
        have dc_5 := i_lt c_5
        exact wp_so4 ⟨h_0, h_1, h_2, h_3⟩
      ·
        have dc_5 := i_nlt c_5
        refine wp_if (fun c_7 => ?_) (fun c_7 => ?_)
        ·
          have dc_7 := i_le c_7
          exact wp_so4 ⟨h_0, h_1, h_2, h_3⟩
        ·
          have dc_7 := i_nle c_7
          refine wp_if (fun c_8 => ?_) (fun c_8 => ?_)
          ·
            have dc_8 := i_lt c_8
            exact wp_so4 ⟨h_0, h_1, h_2, h_3⟩
          ·
            have dc_8 := i_nlt c_8
            have n_10 : (1 : Int32).toInt = 1 := by decide
            refine wp_if (fun c_9 => ?_) (fun c_9 => ?_)
            ·
              have dc_9 := i_le c_9
              refine wp_if (fun c_11 => ?_) (fun c_11 => ?_)
              ·
                have dc_11 := i_eq c_11
                refine wp_bd4 (sf_X7_howManyBent hN h_0 h_1 h_2 h_3 (by omega) (by omega)) (fun r_15 w_16 w_17 w_18 ⟨q_12, q_13, q_14, q_15⟩ => ?_)
                exact wp_so4 ⟨q_12, q_13, q_14, q_15⟩
              ·
                have dc_11 := i_ne c_11
                refine wp_bd4 (sf_X7_firstBent hN h_0 h_1 h_2 h_3 (by omega) (by omega)) (fun r_9 w_10 w_11 w_12 ⟨q_16, q_17, q_18, q_19⟩ => ?_)
                refine wp_if (fun c_20 => ?_) (fun c_20 => ?_)
                ·
                  have dc_20 := i_le c_20
                  exact wp_so4 ⟨q_16, q_17, q_18, q_19⟩
                ·
                  have dc_20 := i_nle c_20
                  exact wp_so4 ⟨q_16, q_17, q_18, q_19⟩
            ·
              have dc_9 := i_nle c_9
              exact wp_so4 ⟨h_0, h_1, h_2, h_3⟩

theorem uf_X8_with (N : Nat) (x1 : Int32) (x2 : Int32) (v_strip_list : List Int32) (v_strip_found : List Int32) (v_strip_at : List Int32) : fX8_with N x1 x2 v_strip_list v_strip_found v_strip_at = mm_bd1 (fX8_isStrip N x1) (fun (r_1 : Bool) =>
    if r_1 = false then
    (some ((-1 : Int32), v_strip_list, v_strip_found, v_strip_at))
    else (if x2 < 0 then
    (some ((-1 : Int32), v_strip_list, v_strip_found, v_strip_at))
    else (if x2 < x1 then
    (mm_bd4 (fX7_howManyTopped N x1 x2 v_strip_list v_strip_found v_strip_at) (fun (r_6 : Int32) (w_7 : List Int32) (w_8 : List Int32) (w_9 : List Int32) =>
    some (r_6, w_7, w_8, w_9)))
    else (some ((-1 : Int32), v_strip_list, v_strip_found, v_strip_at))))) := rfl

set_option maxHeartbeats 4000000 in
set_option maxRecDepth 20000 in
theorem sf_X8_with {N : Nat} (hN : 700 ≤ N) {x1 : Int32} {x2 : Int32} {v_strip_list : List Int32} {v_strip_found : List Int32} {v_strip_at : List Int32} (h_0 : v_strip_list.length = 680) (h_1 : v_strip_found.length = 8) (h_2 : v_strip_at.length = 7) (h_3 : fnd v_strip_found) : wp (fX8_with N x1 x2 v_strip_list v_strip_found v_strip_at) (cu4 (fun (r : Int32) (wv_strip_list : List Int32) (wv_strip_found : List Int32) (wv_strip_at : List Int32) => wv_strip_list.length = 680 ∧ wv_strip_found.length = 8 ∧ wv_strip_at.length = 7 ∧ fnd wv_strip_found)) := by
  refine wp_of (uf_X8_with _ _ _ _ _ _) ?_
  refine wp_in1 ?_
  refine wp_of (uf_X8_isStrip _ _) ?_
  have n_2 : (2 : Int32).toInt = 2 := by decide
  refine wp_if (fun c_1 => ?_) (fun c_1 => ?_)
  ·
    have dc_1 := i_lt c_1
    refine wp_so1 ?_
    show wp _ _
    refine wp_ifp (by decide) ?_
    exact wp_so4 ⟨h_0, h_1, h_2, h_3⟩
  ·
    have dc_1 := i_nlt c_1
    have n_4 : (7 : Int32).toInt = 7 := by decide
    refine wp_if (fun c_3 => ?_) (fun c_3 => ?_)
    ·
      have dc_3 := i_lt c_3
      refine wp_so1 ?_
      show wp _ _
      refine wp_ifp (by decide) ?_
      exact wp_so4 ⟨h_0, h_1, h_2, h_3⟩
    ·
      have dc_3 := i_nlt c_3
      refine wp_so1 ?_
      show wp _ _
      refine wp_ifn (by decide) ?_
      have n_6 : (0 : Int32).toInt = 0 := by decide
      refine wp_if (fun c_5 => ?_) (fun c_5 => ?_)
      ·
        have dc_5 := i_lt c_5
        exact wp_so4 ⟨h_0, h_1, h_2, h_3⟩
      ·
        have dc_5 := i_nlt c_5
        refine wp_if (fun c_7 => ?_) (fun c_7 => ?_)
        ·
          have dc_7 := i_lt c_7
          refine wp_bd4 (sf_X7_howManyTopped hN h_0 h_1 h_2 h_3 (by omega) (by omega)) (fun r_6 w_7 w_8 w_9 ⟨q_8, q_9, q_10, q_11⟩ => ?_)
          exact wp_so4 ⟨q_8, q_9, q_10, q_11⟩
        ·
          have dc_7 := i_nlt c_7
          exact wp_so4 ⟨h_0, h_1, h_2, h_3⟩

theorem uf_X8_image (N : Nat) (v_hasImage : Bool) (v_now_rows : Int32) (v_now_cols : Int32) (v_now_high : Int32) (v_now_wide : Int32) (v_now_folds : Int32) (v_now_wrong : Int32) (v_now_more : Int32) (v_now_rowOf : List Int32) (v_now_colOf : List Int32) (v_now_below : List Int32) (v_now_face : List Int32) (v_now_worn : List Int32) (v_now_last : List Int32) (v_kept_rows : Int32) (v_kept_cols : Int32) (v_kept_high : Int32) (v_kept_wide : Int32) (v_kept_folds : Int32) (v_kept_wrong : Int32) (v_kept_more : Int32) (v_kept_rowOf : List Int32) (v_kept_colOf : List Int32) (v_kept_below : List Int32) (v_kept_face : List Int32) (v_kept_worn : List Int32) (v_kept_last : List Int32) : fX8_image N v_hasImage v_now_rows v_now_cols v_now_high v_now_wide v_now_folds v_now_wrong v_now_more v_now_rowOf v_now_colOf v_now_below v_now_face v_now_worn v_now_last v_kept_rows v_kept_cols v_kept_high v_kept_wide v_kept_folds v_kept_wrong v_kept_more v_kept_rowOf v_kept_colOf v_kept_below v_kept_face v_kept_worn v_kept_last = mm_bd13 (fX5_copy N v_kept_rows v_kept_cols v_kept_high v_kept_wide v_kept_folds v_kept_wrong v_kept_more v_kept_rowOf v_kept_colOf v_kept_below v_kept_face v_kept_worn v_kept_last v_now_rows v_now_cols v_now_high v_now_wide v_now_folds v_now_wrong v_now_more v_now_rowOf v_now_colOf v_now_below v_now_face v_now_worn v_now_last) (fun (w_1 : Int32) (w_2 : Int32) (w_3 : Int32) (w_4 : Int32) (w_5 : Int32) (w_6 : Int32) (w_7 : Int32) (w_8 : List Int32) (w_9 : List Int32) (w_10 : List Int32) (w_11 : List Int32) (w_12 : List Int32) (w_13 : List Int32) =>
    some (v_now_folds, true, w_1, w_2, w_3, w_4, w_5, w_6, w_7, w_8, w_9, w_10, w_11, w_12, w_13)) := rfl

set_option maxHeartbeats 4000000 in
set_option maxRecDepth 20000 in
theorem sf_X8_image {N : Nat} (hN : 700 ≤ N) {v_hasImage : Bool} {v_now_rows : Int32} {v_now_cols : Int32} {v_now_high : Int32} {v_now_wide : Int32} {v_now_folds : Int32} {v_now_wrong : Int32} {v_now_more : Int32} {v_now_rowOf : List Int32} {v_now_colOf : List Int32} {v_now_below : List Int32} {v_now_face : List Int32} {v_now_worn : List Int32} {v_now_last : List Int32} {v_kept_rows : Int32} {v_kept_cols : Int32} {v_kept_high : Int32} {v_kept_wide : Int32} {v_kept_folds : Int32} {v_kept_wrong : Int32} {v_kept_more : Int32} {v_kept_rowOf : List Int32} {v_kept_colOf : List Int32} {v_kept_below : List Int32} {v_kept_face : List Int32} {v_kept_worn : List Int32} {v_kept_last : List Int32} (h_0 : 1 ≤ v_now_rows.toInt) (h_1 : v_now_rows.toInt ≤ 4) (h_2 : 1 ≤ v_now_cols.toInt) (h_3 : v_now_cols.toInt ≤ 8) (h_4 : 1 ≤ v_now_high.toInt) (h_5 : v_now_high.toInt ≤ 4) (h_6 : 1 ≤ v_now_wide.toInt) (h_7 : v_now_wide.toInt ≤ 8) (h_8 : v_now_rowOf.length = 32) (h_9 : v_now_colOf.length = 32) (h_10 : v_now_below.length = 32) (h_11 : v_now_face.length = 32) (h_12 : v_now_worn.length = 64) (h_13 : v_now_last.length = 64) (h_14 : zn v_now_rowOf 0 (v_now_rows.toInt * v_now_cols.toInt) 0 v_now_high.toInt) (h_15 : zn v_now_colOf 0 (v_now_rows.toInt * v_now_cols.toInt) 0 v_now_wide.toInt) (h_16 : 1 ≤ v_kept_rows.toInt) (h_17 : v_kept_rows.toInt ≤ 4) (h_18 : 1 ≤ v_kept_cols.toInt) (h_19 : v_kept_cols.toInt ≤ 8) (h_20 : 1 ≤ v_kept_high.toInt) (h_21 : v_kept_high.toInt ≤ 4) (h_22 : 1 ≤ v_kept_wide.toInt) (h_23 : v_kept_wide.toInt ≤ 8) (h_24 : v_kept_rowOf.length = 32) (h_25 : v_kept_colOf.length = 32) (h_26 : v_kept_below.length = 32) (h_27 : v_kept_face.length = 32) (h_28 : v_kept_worn.length = 64) (h_29 : v_kept_last.length = 64) (h_30 : zn v_kept_rowOf 0 (v_kept_rows.toInt * v_kept_cols.toInt) 0 v_kept_high.toInt) (h_31 : zn v_kept_colOf 0 (v_kept_rows.toInt * v_kept_cols.toInt) 0 v_kept_wide.toInt) : wp (fX8_image N v_hasImage v_now_rows v_now_cols v_now_high v_now_wide v_now_folds v_now_wrong v_now_more v_now_rowOf v_now_colOf v_now_below v_now_face v_now_worn v_now_last v_kept_rows v_kept_cols v_kept_high v_kept_wide v_kept_folds v_kept_wrong v_kept_more v_kept_rowOf v_kept_colOf v_kept_below v_kept_face v_kept_worn v_kept_last) (cu15 (fun (r : Int32) (wv_hasImage : Bool) (wv_kept_rows : Int32) (wv_kept_cols : Int32) (wv_kept_high : Int32) (wv_kept_wide : Int32) (wv_kept_folds : Int32) (wv_kept_wrong : Int32) (wv_kept_more : Int32) (wv_kept_rowOf : List Int32) (wv_kept_colOf : List Int32) (wv_kept_below : List Int32) (wv_kept_face : List Int32) (wv_kept_worn : List Int32) (wv_kept_last : List Int32) => 1 ≤ wv_kept_rows.toInt ∧ wv_kept_rows.toInt ≤ 4 ∧ 1 ≤ wv_kept_cols.toInt ∧ wv_kept_cols.toInt ≤ 8 ∧ 1 ≤ wv_kept_high.toInt ∧ wv_kept_high.toInt ≤ 4 ∧ 1 ≤ wv_kept_wide.toInt ∧ wv_kept_wide.toInt ≤ 8 ∧ wv_kept_rowOf.length = 32 ∧ wv_kept_colOf.length = 32 ∧ wv_kept_below.length = 32 ∧ wv_kept_face.length = 32 ∧ wv_kept_worn.length = 64 ∧ wv_kept_last.length = 64 ∧ zn wv_kept_rowOf 0 (wv_kept_rows.toInt * wv_kept_cols.toInt) 0 wv_kept_high.toInt ∧ zn wv_kept_colOf 0 (wv_kept_rows.toInt * wv_kept_cols.toInt) 0 wv_kept_wide.toInt)) := by
  refine wp_of (uf_X8_image _ _ _ _ _ _ _ _ _ _ _ _ _ _ _ _ _ _ _ _ _ _ _ _ _ _ _ _) ?_
  refine wp_bd13 (sf_X5_copy hN h_16 h_17 h_18 h_19 h_20 h_21 h_22 h_23 h_24 h_25 h_26 h_27 h_28 h_29 h_0 h_1 h_2 h_3 h_4 h_5 h_6 h_7 h_8 h_9 h_10 h_11 h_12 h_13 h_14 h_15) (fun w_1 w_2 w_3 w_4 w_5 w_6 w_7 w_8 w_9 w_10 w_11 w_12 w_13 ⟨q_1, q_2, q_3, q_4, q_5, q_6, q_7, q_8, q_9, q_10, q_11, q_12, q_13, q_14, q_15, q_16, q_17, q_18, q_19, q_20⟩ => ?_)
  exact wp_so15 ⟨q_1, q_2, q_3, q_4, q_5, q_6, q_7, q_8, q_9, q_10, q_11, q_12, q_13, q_14, q_15, q_16⟩

theorem uf_X8_back (N : Nat) (v_hasImage : Bool) (v_now_rows : Int32) (v_now_cols : Int32) (v_now_high : Int32) (v_now_wide : Int32) (v_now_folds : Int32) (v_now_wrong : Int32) (v_now_more : Int32) (v_now_rowOf : List Int32) (v_now_colOf : List Int32) (v_now_below : List Int32) (v_now_face : List Int32) (v_now_worn : List Int32) (v_now_last : List Int32) (v_kept_rows : Int32) (v_kept_cols : Int32) (v_kept_high : Int32) (v_kept_wide : Int32) (v_kept_folds : Int32) (v_kept_wrong : Int32) (v_kept_more : Int32) (v_kept_rowOf : List Int32) (v_kept_colOf : List Int32) (v_kept_below : List Int32) (v_kept_face : List Int32) (v_kept_worn : List Int32) (v_kept_last : List Int32) : fX8_back N v_hasImage v_now_rows v_now_cols v_now_high v_now_wide v_now_folds v_now_wrong v_now_more v_now_rowOf v_now_colOf v_now_below v_now_face v_now_worn v_now_last v_kept_rows v_kept_cols v_kept_high v_kept_wide v_kept_folds v_kept_wrong v_kept_more v_kept_rowOf v_kept_colOf v_kept_below v_kept_face v_kept_worn v_kept_last = if v_hasImage = false then
    (some ((-5 : Int32), v_now_rows, v_now_cols, v_now_high, v_now_wide, v_now_folds, v_now_wrong, v_now_more, v_now_rowOf, v_now_colOf, v_now_below, v_now_face, v_now_worn, v_now_last))
    else (mm_bd13 (fX5_copy N v_now_rows v_now_cols v_now_high v_now_wide v_now_folds v_now_wrong v_now_more v_now_rowOf v_now_colOf v_now_below v_now_face v_now_worn v_now_last v_kept_rows v_kept_cols v_kept_high v_kept_wide v_kept_folds v_kept_wrong v_kept_more v_kept_rowOf v_kept_colOf v_kept_below v_kept_face v_kept_worn v_kept_last) (fun (w_2 : Int32) (w_3 : Int32) (w_4 : Int32) (w_5 : Int32) (w_6 : Int32) (w_7 : Int32) (w_8 : Int32) (w_9 : List Int32) (w_10 : List Int32) (w_11 : List Int32) (w_12 : List Int32) (w_13 : List Int32) (w_14 : List Int32) =>
    some (w_6, w_2, w_3, w_4, w_5, w_6, w_7, w_8, w_9, w_10, w_11, w_12, w_13, w_14))) := rfl

set_option maxHeartbeats 4000000 in
set_option maxRecDepth 20000 in
theorem sf_X8_back {N : Nat} (hN : 700 ≤ N) {v_hasImage : Bool} {v_now_rows : Int32} {v_now_cols : Int32} {v_now_high : Int32} {v_now_wide : Int32} {v_now_folds : Int32} {v_now_wrong : Int32} {v_now_more : Int32} {v_now_rowOf : List Int32} {v_now_colOf : List Int32} {v_now_below : List Int32} {v_now_face : List Int32} {v_now_worn : List Int32} {v_now_last : List Int32} {v_kept_rows : Int32} {v_kept_cols : Int32} {v_kept_high : Int32} {v_kept_wide : Int32} {v_kept_folds : Int32} {v_kept_wrong : Int32} {v_kept_more : Int32} {v_kept_rowOf : List Int32} {v_kept_colOf : List Int32} {v_kept_below : List Int32} {v_kept_face : List Int32} {v_kept_worn : List Int32} {v_kept_last : List Int32} (h_0 : 1 ≤ v_now_rows.toInt) (h_1 : v_now_rows.toInt ≤ 4) (h_2 : 1 ≤ v_now_cols.toInt) (h_3 : v_now_cols.toInt ≤ 8) (h_4 : 1 ≤ v_now_high.toInt) (h_5 : v_now_high.toInt ≤ 4) (h_6 : 1 ≤ v_now_wide.toInt) (h_7 : v_now_wide.toInt ≤ 8) (h_8 : v_now_rowOf.length = 32) (h_9 : v_now_colOf.length = 32) (h_10 : v_now_below.length = 32) (h_11 : v_now_face.length = 32) (h_12 : v_now_worn.length = 64) (h_13 : v_now_last.length = 64) (h_14 : zn v_now_rowOf 0 (v_now_rows.toInt * v_now_cols.toInt) 0 v_now_high.toInt) (h_15 : zn v_now_colOf 0 (v_now_rows.toInt * v_now_cols.toInt) 0 v_now_wide.toInt) (h_16 : 1 ≤ v_kept_rows.toInt) (h_17 : v_kept_rows.toInt ≤ 4) (h_18 : 1 ≤ v_kept_cols.toInt) (h_19 : v_kept_cols.toInt ≤ 8) (h_20 : 1 ≤ v_kept_high.toInt) (h_21 : v_kept_high.toInt ≤ 4) (h_22 : 1 ≤ v_kept_wide.toInt) (h_23 : v_kept_wide.toInt ≤ 8) (h_24 : v_kept_rowOf.length = 32) (h_25 : v_kept_colOf.length = 32) (h_26 : v_kept_below.length = 32) (h_27 : v_kept_face.length = 32) (h_28 : v_kept_worn.length = 64) (h_29 : v_kept_last.length = 64) (h_30 : zn v_kept_rowOf 0 (v_kept_rows.toInt * v_kept_cols.toInt) 0 v_kept_high.toInt) (h_31 : zn v_kept_colOf 0 (v_kept_rows.toInt * v_kept_cols.toInt) 0 v_kept_wide.toInt) : wp (fX8_back N v_hasImage v_now_rows v_now_cols v_now_high v_now_wide v_now_folds v_now_wrong v_now_more v_now_rowOf v_now_colOf v_now_below v_now_face v_now_worn v_now_last v_kept_rows v_kept_cols v_kept_high v_kept_wide v_kept_folds v_kept_wrong v_kept_more v_kept_rowOf v_kept_colOf v_kept_below v_kept_face v_kept_worn v_kept_last) (cu14 (fun (r : Int32) (wv_now_rows : Int32) (wv_now_cols : Int32) (wv_now_high : Int32) (wv_now_wide : Int32) (wv_now_folds : Int32) (wv_now_wrong : Int32) (wv_now_more : Int32) (wv_now_rowOf : List Int32) (wv_now_colOf : List Int32) (wv_now_below : List Int32) (wv_now_face : List Int32) (wv_now_worn : List Int32) (wv_now_last : List Int32) => 1 ≤ wv_now_rows.toInt ∧ wv_now_rows.toInt ≤ 4 ∧ 1 ≤ wv_now_cols.toInt ∧ wv_now_cols.toInt ≤ 8 ∧ 1 ≤ wv_now_high.toInt ∧ wv_now_high.toInt ≤ 4 ∧ 1 ≤ wv_now_wide.toInt ∧ wv_now_wide.toInt ≤ 8 ∧ wv_now_rowOf.length = 32 ∧ wv_now_colOf.length = 32 ∧ wv_now_below.length = 32 ∧ wv_now_face.length = 32 ∧ wv_now_worn.length = 64 ∧ wv_now_last.length = 64 ∧ zn wv_now_rowOf 0 (wv_now_rows.toInt * wv_now_cols.toInt) 0 wv_now_high.toInt ∧ zn wv_now_colOf 0 (wv_now_rows.toInt * wv_now_cols.toInt) 0 wv_now_wide.toInt)) := by
  refine wp_of (uf_X8_back _ _ _ _ _ _ _ _ _ _ _ _ _ _ _ _ _ _ _ _ _ _ _ _ _ _ _ _) ?_
  refine wp_if (fun c_1 => ?_) (fun c_1 => ?_)
  ·
    exact wp_so14 ⟨h_0, h_1, h_2, h_3, h_4, h_5, h_6, h_7, h_8, h_9, h_10, h_11, h_12, h_13, h_14, h_15⟩
  ·
    refine wp_bd13 (sf_X5_copy hN h_0 h_1 h_2 h_3 h_4 h_5 h_6 h_7 h_8 h_9 h_10 h_11 h_12 h_13 h_16 h_17 h_18 h_19 h_20 h_21 h_22 h_23 h_24 h_25 h_26 h_27 h_28 h_29 h_30 h_31) (fun w_2 w_3 w_4 w_5 w_6 w_7 w_8 w_9 w_10 w_11 w_12 w_13 w_14 ⟨q_2, q_3, q_4, q_5, q_6, q_7, q_8, q_9, q_10, q_11, q_12, q_13, q_14, q_15, q_16, q_17, q_18, q_19, q_20, q_21⟩ => ?_)
    exact wp_so14 ⟨q_2, q_3, q_4, q_5, q_6, q_7, q_8, q_9, q_10, q_11, q_12, q_13, q_14, q_15, q_16, q_17⟩

theorem uf_X8_undo (N : Nat) (v_changes_value : Int32) (v_changes_done : Int32) (v_changes_before : List Int32) : fX8_undo N v_changes_value v_changes_done v_changes_before = if v_changes_done = 0 then
    (some ((-5 : Int32), v_changes_value, v_changes_done))
    else (mm_bd2 (fX0_stepBack N v_changes_value v_changes_done v_changes_before) (fun (w_2 : Int32) (w_3 : Int32) =>
    some (w_3, w_2, w_3))) := rfl

set_option maxHeartbeats 4000000 in
set_option maxRecDepth 20000 in
theorem sf_X8_undo {N : Nat} (hN : 700 ≤ N) {v_changes_value : Int32} {v_changes_done : Int32} {v_changes_before : List Int32} (h_0 : 0 ≤ v_changes_done.toInt) (h_1 : v_changes_done.toInt ≤ 40) (h_2 : v_changes_before.length = 40) : wp (fX8_undo N v_changes_value v_changes_done v_changes_before) (cu3 (fun (r : Int32) (wv_changes_value : Int32) (wv_changes_done : Int32) => 0 ≤ wv_changes_done.toInt ∧ wv_changes_done.toInt ≤ 40)) := by
  refine wp_of (uf_X8_undo _ _ _ _) ?_
  have n_2 : (0 : Int32).toInt = 0 := by decide
  refine wp_if (fun c_1 => ?_) (fun c_1 => ?_)
  ·
    have dc_1 := i_eq c_1
    exact wp_so3 ⟨h_0, h_1⟩
  ·
    have dc_1 := i_ne c_1
    refine wp_bd2 (sf_X0_stepBack hN h_0 h_1 h_2) (fun w_2 w_3 ⟨q_3, q_4⟩ => ?_)
    exact wp_so3 ⟨q_3, q_4⟩

theorem uf_X8_redo (N : Nat) (v_changes_value : Int32) (v_changes_done : Int32) (v_changes_size : Int32) (v_changes_after : List Int32) : fX8_redo N v_changes_value v_changes_done v_changes_size v_changes_after = if v_changes_done = v_changes_size then
    (some ((-5 : Int32), v_changes_value, v_changes_done))
    else (mm_bd2 (fX0_stepOn N v_changes_value v_changes_done v_changes_size v_changes_after) (fun (w_2 : Int32) (w_3 : Int32) =>
    some ((v_changes_size - w_3), w_2, w_3))) := rfl

set_option maxHeartbeats 4000000 in
set_option maxRecDepth 20000 in
theorem sf_X8_redo {N : Nat} (hN : 700 ≤ N) {v_changes_value : Int32} {v_changes_done : Int32} {v_changes_size : Int32} {v_changes_after : List Int32} (h_0 : 0 ≤ v_changes_done.toInt) (h_1 : v_changes_done.toInt ≤ 40) (h_2 : 0 ≤ v_changes_size.toInt) (h_3 : v_changes_size.toInt ≤ 40) (h_4 : v_changes_after.length = 40) : wp (fX8_redo N v_changes_value v_changes_done v_changes_size v_changes_after) (cu3 (fun (r : Int32) (wv_changes_value : Int32) (wv_changes_done : Int32) => 0 ≤ wv_changes_done.toInt ∧ wv_changes_done.toInt ≤ 40)) := by
  refine wp_of (uf_X8_redo _ _ _ _ _) ?_
  refine wp_if (fun c_1 => ?_) (fun c_1 => ?_)
  ·
    have dc_1 := i_eq c_1
    exact wp_so3 ⟨h_0, h_1⟩
  ·
    have dc_1 := i_ne c_1
    refine wp_bd2 (sf_X0_stepOn hN h_0 h_1 h_2 h_3 h_4) (fun w_2 w_3 ⟨q_2, q_3⟩ => ?_)
    exact wp_so3 ⟨q_2, q_3⟩

theorem uf_X8_body (N : Nat) (x1 : Int32) (v_foldings_size : Int32) (v_foldings_kinds : List Int32) : fX8_body N x1 v_foldings_size v_foldings_kinds = if x1 < 0 then
    (some ((-1 : Int32), v_foldings_size, v_foldings_kinds))
    else (if x1 < (8 : Int32) then
    (mm_bd3 (fX1_make N x1 v_foldings_size v_foldings_kinds) (fun (r_3 : Bool) (w_4 : Int32) (w_5 : List Int32) =>
    if r_3 = false then
    (some ((-3 : Int32), w_4, w_5))
    else (some ((w_4 - (1 : Int32)), w_4, w_5))))
    else (some ((-1 : Int32), v_foldings_size, v_foldings_kinds))) := rfl

set_option maxHeartbeats 4000000 in
set_option maxRecDepth 20000 in
theorem sf_X8_body {N : Nat} (hN : 700 ≤ N) {x1 : Int32} {v_foldings_size : Int32} {v_foldings_kinds : List Int32} (h_0 : 0 ≤ v_foldings_size.toInt) (h_1 : v_foldings_size.toInt ≤ 50) (h_2 : v_foldings_kinds.length = 50) (h_3 : zn v_foldings_kinds 0 v_foldings_size.toInt 0 8) : wp (fX8_body N x1 v_foldings_size v_foldings_kinds) (cu3 (fun (r : Int32) (wv_foldings_size : Int32) (wv_foldings_kinds : List Int32) => 0 ≤ wv_foldings_size.toInt ∧ wv_foldings_size.toInt ≤ 50 ∧ wv_foldings_kinds.length = 50 ∧ zn wv_foldings_kinds 0 wv_foldings_size.toInt 0 8)) := by
  refine wp_of (uf_X8_body _ _ _ _) ?_
  have n_2 : (0 : Int32).toInt = 0 := by decide
  refine wp_if (fun c_1 => ?_) (fun c_1 => ?_)
  ·
    have dc_1 := i_lt c_1
    exact wp_so3 ⟨h_0, h_1, h_2, h_3⟩
  ·
    have dc_1 := i_nlt c_1
    have n_4 : (8 : Int32).toInt = 8 := by decide
    refine wp_if (fun c_3 => ?_) (fun c_3 => ?_)
    ·
      have dc_3 := i_lt c_3
      refine wp_bd3 (sf_X1_make hN h_0 h_1 h_2 h_3 (by omega) (by omega)) (fun r_3 w_4 w_5 ⟨q_5, q_6, q_7, q_8⟩ => ?_)
      refine wp_if (fun c_9 => ?_) (fun c_9 => ?_)
      ·
        exact wp_so3 ⟨q_5, q_6, q_7, q_8⟩
      ·
        exact wp_so3 ⟨q_5, q_6, q_7, q_8⟩
    ·
      have dc_3 := i_nlt c_3
      exact wp_so3 ⟨h_0, h_1, h_2, h_3⟩

theorem uf_X8_trace (N : Nat) (x1 : Int32) (v_foldings_ran : Int32) (v_foldings_trace : List Int32) : fX8_trace N x1 v_foldings_ran v_foldings_trace = mm_bd1 (fX1_traced N x1 v_foldings_ran v_foldings_trace) (fun (r_1 : Int32) =>
    some (r_1)) := rfl

set_option maxHeartbeats 4000000 in
set_option maxRecDepth 20000 in
theorem sf_X8_trace {N : Nat} (hN : 700 ≤ N) {x1 : Int32} {v_foldings_ran : Int32} {v_foldings_trace : List Int32} (h_0 : v_foldings_trace.length = 24) : wp (fX8_trace N x1 v_foldings_ran v_foldings_trace) (fun (r : Int32) => True) := by
  refine wp_of (uf_X8_trace _ _ _ _) ?_
  refine wp_bd1 (sf_X1_traced hN h_0) (fun r_1 _ => ?_)
  exact wp_so1 trivial
