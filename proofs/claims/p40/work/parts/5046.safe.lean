/-! safe -/
theorem uf_X8_isShelf (N : Nat) (x0 : Int32) : fX8_isShelf N x0 = if x0 < 0 then
    (some (false))
    else (if (6 : Int32) ≤ x0 then
    (some (false))
    else (some (true))) := rfl

theorem uf_X8_keep (N : Nat) (x1 : Int32) (x2 : Int32) (v_foldings_size : Int32) (v_shelves0_holds : Int32) (v_shelves0_body : Int32) (v_shelves1_holds : Int32) (v_shelves1_body : Int32) (v_shelves2_holds : Int32) (v_shelves2_body : Int32) (v_shelves3_holds : Int32) (v_shelves3_body : Int32) (v_shelves4_holds : Int32) (v_shelves4_body : Int32) (v_shelves5_holds : Int32) (v_shelves5_body : Int32) : fX8_keep N x1 x2 v_foldings_size v_shelves0_holds v_shelves0_body v_shelves1_holds v_shelves1_body v_shelves2_holds v_shelves2_body v_shelves3_holds v_shelves3_body v_shelves4_holds v_shelves4_body v_shelves5_holds v_shelves5_body = mm_bd1 (fX8_isShelf N x1) (fun (r_1 : Bool) =>
    if r_1 = false then
    (some ((-1 : Int32), v_shelves0_holds, v_shelves0_body, v_shelves1_holds, v_shelves1_body, v_shelves2_holds, v_shelves2_body, v_shelves3_holds, v_shelves3_body, v_shelves4_holds, v_shelves4_body, v_shelves5_holds, v_shelves5_body))
    else (if x2 = (-1 : Int32) then
    (fX8_keep_25 N x1 x2 v_foldings_size v_shelves0_holds v_shelves0_body v_shelves1_holds v_shelves1_body v_shelves2_holds v_shelves2_body v_shelves3_holds v_shelves3_body v_shelves4_holds v_shelves4_body v_shelves5_holds v_shelves5_body)
    else (mm_bd1 (fX1_has N x2 v_foldings_size) (fun (r_5 : Bool) =>
    if r_5 = false then
    (some ((-1 : Int32), v_shelves0_holds, v_shelves0_body, v_shelves1_holds, v_shelves1_body, v_shelves2_holds, v_shelves2_body, v_shelves3_holds, v_shelves3_body, v_shelves4_holds, v_shelves4_body, v_shelves5_holds, v_shelves5_body))
    else (fX8_keep_25 N x1 x2 v_foldings_size v_shelves0_holds v_shelves0_body v_shelves1_holds v_shelves1_body v_shelves2_holds v_shelves2_body v_shelves3_holds v_shelves3_body v_shelves4_holds v_shelves4_body v_shelves5_holds v_shelves5_body))))) := rfl

theorem uf_X8_keep_25 (N : Nat) (x1 : Int32) (x2 : Int32) (v_foldings_size : Int32) (v_shelves0_holds : Int32) (v_shelves0_body : Int32) (v_shelves1_holds : Int32) (v_shelves1_body : Int32) (v_shelves2_holds : Int32) (v_shelves2_body : Int32) (v_shelves3_holds : Int32) (v_shelves3_body : Int32) (v_shelves4_holds : Int32) (v_shelves4_body : Int32) (v_shelves5_holds : Int32) (v_shelves5_body : Int32) : fX8_keep_25 N x1 x2 v_foldings_size v_shelves0_holds v_shelves0_body v_shelves1_holds v_shelves1_body v_shelves2_holds v_shelves2_body v_shelves3_holds v_shelves3_body v_shelves4_holds v_shelves4_body v_shelves5_holds v_shelves5_body = if x2 = (-1 : Int32) then
    (if x1 = (0 : Int32) then
    (some ((1 : Int32), (0 : Int32), v_shelves0_body, v_shelves1_holds, v_shelves1_body, v_shelves2_holds, v_shelves2_body, v_shelves3_holds, v_shelves3_body, v_shelves4_holds, v_shelves4_body, v_shelves5_holds, v_shelves5_body))
    else (if x1 = (1 : Int32) then
    (some ((1 : Int32), v_shelves0_holds, v_shelves0_body, (0 : Int32), v_shelves1_body, v_shelves2_holds, v_shelves2_body, v_shelves3_holds, v_shelves3_body, v_shelves4_holds, v_shelves4_body, v_shelves5_holds, v_shelves5_body))
    else (if x1 = (2 : Int32) then
    (some ((1 : Int32), v_shelves0_holds, v_shelves0_body, v_shelves1_holds, v_shelves1_body, (0 : Int32), v_shelves2_body, v_shelves3_holds, v_shelves3_body, v_shelves4_holds, v_shelves4_body, v_shelves5_holds, v_shelves5_body))
    else (if x1 = (3 : Int32) then
    (some ((1 : Int32), v_shelves0_holds, v_shelves0_body, v_shelves1_holds, v_shelves1_body, v_shelves2_holds, v_shelves2_body, (0 : Int32), v_shelves3_body, v_shelves4_holds, v_shelves4_body, v_shelves5_holds, v_shelves5_body))
    else (if x1 = (4 : Int32) then
    (some ((1 : Int32), v_shelves0_holds, v_shelves0_body, v_shelves1_holds, v_shelves1_body, v_shelves2_holds, v_shelves2_body, v_shelves3_holds, v_shelves3_body, (0 : Int32), v_shelves4_body, v_shelves5_holds, v_shelves5_body))
    else (if x1 = (5 : Int32) then
    (some ((1 : Int32), v_shelves0_holds, v_shelves0_body, v_shelves1_holds, v_shelves1_body, v_shelves2_holds, v_shelves2_body, v_shelves3_holds, v_shelves3_body, v_shelves4_holds, v_shelves4_body, (0 : Int32), v_shelves5_body))
    else (none)))))))
    else (if x1 = (0 : Int32) then
    (mm_bd2 (fX6_holdFolding N x2 v_shelves0_holds v_shelves0_body) (fun (w_10 : Int32) (w_11 : Int32) =>
    some ((1 : Int32), w_10, w_11, v_shelves1_holds, v_shelves1_body, v_shelves2_holds, v_shelves2_body, v_shelves3_holds, v_shelves3_body, v_shelves4_holds, v_shelves4_body, v_shelves5_holds, v_shelves5_body)))
    else (if x1 = (1 : Int32) then
    (mm_bd2 (fX6_holdFolding N x2 v_shelves1_holds v_shelves1_body) (fun (w_14 : Int32) (w_15 : Int32) =>
    some ((1 : Int32), v_shelves0_holds, v_shelves0_body, w_14, w_15, v_shelves2_holds, v_shelves2_body, v_shelves3_holds, v_shelves3_body, v_shelves4_holds, v_shelves4_body, v_shelves5_holds, v_shelves5_body)))
    else (if x1 = (2 : Int32) then
    (mm_bd2 (fX6_holdFolding N x2 v_shelves2_holds v_shelves2_body) (fun (w_18 : Int32) (w_19 : Int32) =>
    some ((1 : Int32), v_shelves0_holds, v_shelves0_body, v_shelves1_holds, v_shelves1_body, w_18, w_19, v_shelves3_holds, v_shelves3_body, v_shelves4_holds, v_shelves4_body, v_shelves5_holds, v_shelves5_body)))
    else (if x1 = (3 : Int32) then
    (mm_bd2 (fX6_holdFolding N x2 v_shelves3_holds v_shelves3_body) (fun (w_22 : Int32) (w_23 : Int32) =>
    some ((1 : Int32), v_shelves0_holds, v_shelves0_body, v_shelves1_holds, v_shelves1_body, v_shelves2_holds, v_shelves2_body, w_22, w_23, v_shelves4_holds, v_shelves4_body, v_shelves5_holds, v_shelves5_body)))
    else (if x1 = (4 : Int32) then
    (mm_bd2 (fX6_holdFolding N x2 v_shelves4_holds v_shelves4_body) (fun (w_26 : Int32) (w_27 : Int32) =>
    some ((1 : Int32), v_shelves0_holds, v_shelves0_body, v_shelves1_holds, v_shelves1_body, v_shelves2_holds, v_shelves2_body, v_shelves3_holds, v_shelves3_body, w_26, w_27, v_shelves5_holds, v_shelves5_body)))
    else (if x1 = (5 : Int32) then
    (mm_bd2 (fX6_holdFolding N x2 v_shelves5_holds v_shelves5_body) (fun (w_30 : Int32) (w_31 : Int32) =>
    some ((1 : Int32), v_shelves0_holds, v_shelves0_body, v_shelves1_holds, v_shelves1_body, v_shelves2_holds, v_shelves2_body, v_shelves3_holds, v_shelves3_body, v_shelves4_holds, v_shelves4_body, w_30, w_31)))
    else (none))))))) := rfl

set_option maxHeartbeats 4000000 in
set_option maxRecDepth 20000 in
theorem sf_X8_keep {N : Nat} (hN : 700 ≤ N) {x1 : Int32} {x2 : Int32} {v_foldings_size : Int32} {v_shelves0_holds : Int32} {v_shelves0_body : Int32} {v_shelves1_holds : Int32} {v_shelves1_body : Int32} {v_shelves2_holds : Int32} {v_shelves2_body : Int32} {v_shelves3_holds : Int32} {v_shelves3_body : Int32} {v_shelves4_holds : Int32} {v_shelves4_body : Int32} {v_shelves5_holds : Int32} {v_shelves5_body : Int32} (h_0 : 0 ≤ v_foldings_size.toInt) (h_1 : v_foldings_size.toInt ≤ 50) : wp (fX8_keep N x1 x2 v_foldings_size v_shelves0_holds v_shelves0_body v_shelves1_holds v_shelves1_body v_shelves2_holds v_shelves2_body v_shelves3_holds v_shelves3_body v_shelves4_holds v_shelves4_body v_shelves5_holds v_shelves5_body) (cu13 (fun (r : Int32) (wv_shelves0_holds : Int32) (wv_shelves0_body : Int32) (wv_shelves1_holds : Int32) (wv_shelves1_body : Int32) (wv_shelves2_holds : Int32) (wv_shelves2_body : Int32) (wv_shelves3_holds : Int32) (wv_shelves3_body : Int32) (wv_shelves4_holds : Int32) (wv_shelves4_body : Int32) (wv_shelves5_holds : Int32) (wv_shelves5_body : Int32) => True)) := by
  refine wp_of (uf_X8_keep _ _ _ _ _ _ _ _ _ _ _ _ _ _ _ _) ?_
  refine wp_in1 ?_
  refine wp_of (uf_X8_isShelf _ _) ?_
  have n_2 : (0 : Int32).toInt = 0 := by decide
  refine wp_if (fun c_1 => ?_) (fun c_1 => ?_)
  ·
    have dc_1 := i_lt c_1
    refine wp_so1 ?_
    show wp _ _
    refine wp_ifp (by decide) ?_
    exact wp_so13 trivial
  ·
    have dc_1 := i_nlt c_1
    have n_4 : (6 : Int32).toInt = 6 := by decide
    refine wp_if (fun c_3 => ?_) (fun c_3 => ?_)
    ·
      have dc_3 := i_le c_3
      refine wp_so1 ?_
      show wp _ _
      refine wp_ifp (by decide) ?_
      exact wp_so13 trivial
    ·
      have dc_3 := i_nle c_3
      refine wp_so1 ?_
      show wp _ _
      refine wp_ifn (by decide) ?_
      have n_6 : (-1 : Int32).toInt = -1 := by decide
      refine wp_if (fun c_5 => ?_) (fun c_5 => ?_)
      ·
        have dc_5 := i_eq c_5
        refine wp_of (uf_X8_keep_25 _ _ _ _ _ _ _ _ _ _ _ _ _ _ _ _) ?_
        refine wp_ifp c_5 ?_
        refine wp_if (fun c_7 => ?_) (fun c_7 => ?_)
        ·
          have dc_7 := i_eq c_7
          exact wp_so13 trivial
        ·
          have dc_7 := i_ne c_7
          have n_9 : (1 : Int32).toInt = 1 := by decide
          refine wp_if (fun c_8 => ?_) (fun c_8 => ?_)
          ·
            have dc_8 := i_eq c_8
            exact wp_so13 trivial
          ·
            have dc_8 := i_ne c_8
            have n_11 : (2 : Int32).toInt = 2 := by decide
            refine wp_if (fun c_10 => ?_) (fun c_10 => ?_)
            ·
              have dc_10 := i_eq c_10
              exact wp_so13 trivial
            ·
              have dc_10 := i_ne c_10
              have n_13 : (3 : Int32).toInt = 3 := by decide
              refine wp_if (fun c_12 => ?_) (fun c_12 => ?_)
              ·
                have dc_12 := i_eq c_12
                exact wp_so13 trivial
              ·
                have dc_12 := i_ne c_12
                have n_15 : (4 : Int32).toInt = 4 := by decide
                refine wp_if (fun c_14 => ?_) (fun c_14 => ?_)
                ·
                  have dc_14 := i_eq c_14
                  exact wp_so13 trivial
                ·
                  have dc_14 := i_ne c_14
                  have n_17 : (5 : Int32).toInt = 5 := by decide
                  refine wp_if (fun c_16 => ?_) (fun c_16 => ?_)
                  ·
                    have dc_16 := i_eq c_16
                    exact wp_so13 trivial
                  ·
                    have dc_16 := i_ne c_16
                    exact (show False by omega).elim
      ·
        have dc_5 := i_ne c_5
        refine wp_bd1 (sf_X1_has hN h_0 h_1) (fun r_5 q_18 => ?_)
        rcases q_18 with ⟨rfl, q_18⟩ | ⟨rfl, q_18⟩
        ·
          refine wp_ifn (by decide) ?_
          refine wp_of (uf_X8_keep_25 _ _ _ _ _ _ _ _ _ _ _ _ _ _ _ _) ?_
          refine wp_ifn c_5 ?_
          refine wp_if (fun c_19 => ?_) (fun c_19 => ?_)
          ·
            have dc_19 := i_eq c_19
            refine wp_bd2 (sf_X6_holdFolding hN ) (fun w_10 w_11 _ => ?_)
            exact wp_so13 trivial
          ·
            have dc_19 := i_ne c_19
            have n_21 : (1 : Int32).toInt = 1 := by decide
            refine wp_if (fun c_20 => ?_) (fun c_20 => ?_)
            ·
              have dc_20 := i_eq c_20
              refine wp_bd2 (sf_X6_holdFolding hN ) (fun w_14 w_15 _ => ?_)
              exact wp_so13 trivial
            ·
              have dc_20 := i_ne c_20
              have n_23 : (2 : Int32).toInt = 2 := by decide
              refine wp_if (fun c_22 => ?_) (fun c_22 => ?_)
              ·
                have dc_22 := i_eq c_22
                refine wp_bd2 (sf_X6_holdFolding hN ) (fun w_18 w_19 _ => ?_)
                exact wp_so13 trivial
              ·
                have dc_22 := i_ne c_22
                have n_25 : (3 : Int32).toInt = 3 := by decide
                refine wp_if (fun c_24 => ?_) (fun c_24 => ?_)
                ·
                  have dc_24 := i_eq c_24
                  refine wp_bd2 (sf_X6_holdFolding hN ) (fun w_22 w_23 _ => ?_)
                  exact wp_so13 trivial
                ·
                  have dc_24 := i_ne c_24
                  have n_27 : (4 : Int32).toInt = 4 := by decide
                  refine wp_if (fun c_26 => ?_) (fun c_26 => ?_)
                  ·
                    have dc_26 := i_eq c_26
                    refine wp_bd2 (sf_X6_holdFolding hN ) (fun w_26 w_27 _ => ?_)
                    exact wp_so13 trivial
                  ·
                    have dc_26 := i_ne c_26
                    have n_29 : (5 : Int32).toInt = 5 := by decide
                    refine wp_if (fun c_28 => ?_) (fun c_28 => ?_)
                    ·
                      have dc_28 := i_eq c_28
                      refine wp_bd2 (sf_X6_holdFolding hN ) (fun w_30 w_31 _ => ?_)
                      exact wp_so13 trivial
                    ·
                      have dc_28 := i_ne c_28
                      exact (show False by omega).elim
        ·
          refine wp_ifp (by decide) ?_
          exact wp_so13 trivial

theorem uf_X8_row (N : Nat) (x1 : Int32) (x2 : Int32) (x3 : Int32) (v_shelves0_holds : Int32) (v_shelves0_sort : Int32) (v_shelves0_size : Int32) (v_shelves0_items : List Int64) (v_shelves1_holds : Int32) (v_shelves1_sort : Int32) (v_shelves1_size : Int32) (v_shelves1_items : List Int64) (v_shelves2_holds : Int32) (v_shelves2_sort : Int32) (v_shelves2_size : Int32) (v_shelves2_items : List Int64) (v_shelves3_holds : Int32) (v_shelves3_sort : Int32) (v_shelves3_size : Int32) (v_shelves3_items : List Int64) (v_shelves4_holds : Int32) (v_shelves4_sort : Int32) (v_shelves4_size : Int32) (v_shelves4_items : List Int64) (v_shelves5_holds : Int32) (v_shelves5_sort : Int32) (v_shelves5_size : Int32) (v_shelves5_items : List Int64) : fX8_row N x1 x2 x3 v_shelves0_holds v_shelves0_sort v_shelves0_size v_shelves0_items v_shelves1_holds v_shelves1_sort v_shelves1_size v_shelves1_items v_shelves2_holds v_shelves2_sort v_shelves2_size v_shelves2_items v_shelves3_holds v_shelves3_sort v_shelves3_size v_shelves3_items v_shelves4_holds v_shelves4_sort v_shelves4_size v_shelves4_items v_shelves5_holds v_shelves5_sort v_shelves5_size v_shelves5_items = mm_bd1 (fX8_isShelf N x1) (fun (r_1 : Bool) =>
    if r_1 = false then
    (some ((-1 : Int32), v_shelves0_holds, v_shelves0_sort, v_shelves0_size, v_shelves0_items, v_shelves1_holds, v_shelves1_sort, v_shelves1_size, v_shelves1_items, v_shelves2_holds, v_shelves2_sort, v_shelves2_size, v_shelves2_items, v_shelves3_holds, v_shelves3_sort, v_shelves3_size, v_shelves3_items, v_shelves4_holds, v_shelves4_sort, v_shelves4_size, v_shelves4_items, v_shelves5_holds, v_shelves5_sort, v_shelves5_size, v_shelves5_items))
    else (if x2 < 0 then
    (some ((-1 : Int32), v_shelves0_holds, v_shelves0_sort, v_shelves0_size, v_shelves0_items, v_shelves1_holds, v_shelves1_sort, v_shelves1_size, v_shelves1_items, v_shelves2_holds, v_shelves2_sort, v_shelves2_size, v_shelves2_items, v_shelves3_holds, v_shelves3_sort, v_shelves3_size, v_shelves3_items, v_shelves4_holds, v_shelves4_sort, v_shelves4_size, v_shelves4_items, v_shelves5_holds, v_shelves5_sort, v_shelves5_size, v_shelves5_items))
    else (if (5 : Int32) ≤ x2 then
    (some ((-1 : Int32), v_shelves0_holds, v_shelves0_sort, v_shelves0_size, v_shelves0_items, v_shelves1_holds, v_shelves1_sort, v_shelves1_size, v_shelves1_items, v_shelves2_holds, v_shelves2_sort, v_shelves2_size, v_shelves2_items, v_shelves3_holds, v_shelves3_sort, v_shelves3_size, v_shelves3_items, v_shelves4_holds, v_shelves4_sort, v_shelves4_size, v_shelves4_items, v_shelves5_holds, v_shelves5_sort, v_shelves5_size, v_shelves5_items))
    else (if x3 ≤ (60 : Int32) then
    (if 0 ≤ x3 then
    (if x1 = (0 : Int32) then
    (mm_bd4 (fX6_holdRow N x2 x3 v_shelves0_holds v_shelves0_sort v_shelves0_size v_shelves0_items) (fun (w_9 : Int32) (w_10 : Int32) (w_11 : Int32) (w_12 : List Int64) =>
    some ((1 : Int32), w_9, w_10, w_11, w_12, v_shelves1_holds, v_shelves1_sort, v_shelves1_size, v_shelves1_items, v_shelves2_holds, v_shelves2_sort, v_shelves2_size, v_shelves2_items, v_shelves3_holds, v_shelves3_sort, v_shelves3_size, v_shelves3_items, v_shelves4_holds, v_shelves4_sort, v_shelves4_size, v_shelves4_items, v_shelves5_holds, v_shelves5_sort, v_shelves5_size, v_shelves5_items)))
    else (if x1 = (1 : Int32) then
    (mm_bd4 (fX6_holdRow N x2 x3 v_shelves1_holds v_shelves1_sort v_shelves1_size v_shelves1_items) (fun (w_15 : Int32) (w_16 : Int32) (w_17 : Int32) (w_18 : List Int64) =>
    some ((1 : Int32), v_shelves0_holds, v_shelves0_sort, v_shelves0_size, v_shelves0_items, w_15, w_16, w_17, w_18, v_shelves2_holds, v_shelves2_sort, v_shelves2_size, v_shelves2_items, v_shelves3_holds, v_shelves3_sort, v_shelves3_size, v_shelves3_items, v_shelves4_holds, v_shelves4_sort, v_shelves4_size, v_shelves4_items, v_shelves5_holds, v_shelves5_sort, v_shelves5_size, v_shelves5_items)))
    else (if x1 = (2 : Int32) then
    (mm_bd4 (fX6_holdRow N x2 x3 v_shelves2_holds v_shelves2_sort v_shelves2_size v_shelves2_items) (fun (w_21 : Int32) (w_22 : Int32) (w_23 : Int32) (w_24 : List Int64) =>
    some ((1 : Int32), v_shelves0_holds, v_shelves0_sort, v_shelves0_size, v_shelves0_items, v_shelves1_holds, v_shelves1_sort, v_shelves1_size, v_shelves1_items, w_21, w_22, w_23, w_24, v_shelves3_holds, v_shelves3_sort, v_shelves3_size, v_shelves3_items, v_shelves4_holds, v_shelves4_sort, v_shelves4_size, v_shelves4_items, v_shelves5_holds, v_shelves5_sort, v_shelves5_size, v_shelves5_items)))
    else (if x1 = (3 : Int32) then
    (mm_bd4 (fX6_holdRow N x2 x3 v_shelves3_holds v_shelves3_sort v_shelves3_size v_shelves3_items) (fun (w_27 : Int32) (w_28 : Int32) (w_29 : Int32) (w_30 : List Int64) =>
    some ((1 : Int32), v_shelves0_holds, v_shelves0_sort, v_shelves0_size, v_shelves0_items, v_shelves1_holds, v_shelves1_sort, v_shelves1_size, v_shelves1_items, v_shelves2_holds, v_shelves2_sort, v_shelves2_size, v_shelves2_items, w_27, w_28, w_29, w_30, v_shelves4_holds, v_shelves4_sort, v_shelves4_size, v_shelves4_items, v_shelves5_holds, v_shelves5_sort, v_shelves5_size, v_shelves5_items)))
    else (if x1 = (4 : Int32) then
    (mm_bd4 (fX6_holdRow N x2 x3 v_shelves4_holds v_shelves4_sort v_shelves4_size v_shelves4_items) (fun (w_33 : Int32) (w_34 : Int32) (w_35 : Int32) (w_36 : List Int64) =>
    some ((1 : Int32), v_shelves0_holds, v_shelves0_sort, v_shelves0_size, v_shelves0_items, v_shelves1_holds, v_shelves1_sort, v_shelves1_size, v_shelves1_items, v_shelves2_holds, v_shelves2_sort, v_shelves2_size, v_shelves2_items, v_shelves3_holds, v_shelves3_sort, v_shelves3_size, v_shelves3_items, w_33, w_34, w_35, w_36, v_shelves5_holds, v_shelves5_sort, v_shelves5_size, v_shelves5_items)))
    else (if x1 = (5 : Int32) then
    (mm_bd4 (fX6_holdRow N x2 x3 v_shelves5_holds v_shelves5_sort v_shelves5_size v_shelves5_items) (fun (w_39 : Int32) (w_40 : Int32) (w_41 : Int32) (w_42 : List Int64) =>
    some ((1 : Int32), v_shelves0_holds, v_shelves0_sort, v_shelves0_size, v_shelves0_items, v_shelves1_holds, v_shelves1_sort, v_shelves1_size, v_shelves1_items, v_shelves2_holds, v_shelves2_sort, v_shelves2_size, v_shelves2_items, v_shelves3_holds, v_shelves3_sort, v_shelves3_size, v_shelves3_items, v_shelves4_holds, v_shelves4_sort, v_shelves4_size, v_shelves4_items, w_39, w_40, w_41, w_42)))
    else (none)))))))
    else (some ((-14 : Int32), v_shelves0_holds, v_shelves0_sort, v_shelves0_size, v_shelves0_items, v_shelves1_holds, v_shelves1_sort, v_shelves1_size, v_shelves1_items, v_shelves2_holds, v_shelves2_sort, v_shelves2_size, v_shelves2_items, v_shelves3_holds, v_shelves3_sort, v_shelves3_size, v_shelves3_items, v_shelves4_holds, v_shelves4_sort, v_shelves4_size, v_shelves4_items, v_shelves5_holds, v_shelves5_sort, v_shelves5_size, v_shelves5_items)))
    else (some ((-1 : Int32), v_shelves0_holds, v_shelves0_sort, v_shelves0_size, v_shelves0_items, v_shelves1_holds, v_shelves1_sort, v_shelves1_size, v_shelves1_items, v_shelves2_holds, v_shelves2_sort, v_shelves2_size, v_shelves2_items, v_shelves3_holds, v_shelves3_sort, v_shelves3_size, v_shelves3_items, v_shelves4_holds, v_shelves4_sort, v_shelves4_size, v_shelves4_items, v_shelves5_holds, v_shelves5_sort, v_shelves5_size, v_shelves5_items)))))) := rfl

set_option maxHeartbeats 4000000 in
set_option maxRecDepth 20000 in
theorem sf_X8_row {N : Nat} (hN : 700 ≤ N) {x1 : Int32} {x2 : Int32} {x3 : Int32} {v_shelves0_holds : Int32} {v_shelves0_sort : Int32} {v_shelves0_size : Int32} {v_shelves0_items : List Int64} {v_shelves1_holds : Int32} {v_shelves1_sort : Int32} {v_shelves1_size : Int32} {v_shelves1_items : List Int64} {v_shelves2_holds : Int32} {v_shelves2_sort : Int32} {v_shelves2_size : Int32} {v_shelves2_items : List Int64} {v_shelves3_holds : Int32} {v_shelves3_sort : Int32} {v_shelves3_size : Int32} {v_shelves3_items : List Int64} {v_shelves4_holds : Int32} {v_shelves4_sort : Int32} {v_shelves4_size : Int32} {v_shelves4_items : List Int64} {v_shelves5_holds : Int32} {v_shelves5_sort : Int32} {v_shelves5_size : Int32} {v_shelves5_items : List Int64} (h_0 : 0 ≤ v_shelves0_size.toInt) (h_1 : v_shelves0_size.toInt ≤ 60) (h_2 : v_shelves0_items.length = 60) (h_3 : 0 ≤ v_shelves1_size.toInt) (h_4 : v_shelves1_size.toInt ≤ 60) (h_5 : v_shelves1_items.length = 60) (h_6 : 0 ≤ v_shelves2_size.toInt) (h_7 : v_shelves2_size.toInt ≤ 60) (h_8 : v_shelves2_items.length = 60) (h_9 : 0 ≤ v_shelves3_size.toInt) (h_10 : v_shelves3_size.toInt ≤ 60) (h_11 : v_shelves3_items.length = 60) (h_12 : 0 ≤ v_shelves4_size.toInt) (h_13 : v_shelves4_size.toInt ≤ 60) (h_14 : v_shelves4_items.length = 60) (h_15 : 0 ≤ v_shelves5_size.toInt) (h_16 : v_shelves5_size.toInt ≤ 60) (h_17 : v_shelves5_items.length = 60) : wp (fX8_row N x1 x2 x3 v_shelves0_holds v_shelves0_sort v_shelves0_size v_shelves0_items v_shelves1_holds v_shelves1_sort v_shelves1_size v_shelves1_items v_shelves2_holds v_shelves2_sort v_shelves2_size v_shelves2_items v_shelves3_holds v_shelves3_sort v_shelves3_size v_shelves3_items v_shelves4_holds v_shelves4_sort v_shelves4_size v_shelves4_items v_shelves5_holds v_shelves5_sort v_shelves5_size v_shelves5_items) (cu25 (fun (r : Int32) (wv_shelves0_holds : Int32) (wv_shelves0_sort : Int32) (wv_shelves0_size : Int32) (wv_shelves0_items : List Int64) (wv_shelves1_holds : Int32) (wv_shelves1_sort : Int32) (wv_shelves1_size : Int32) (wv_shelves1_items : List Int64) (wv_shelves2_holds : Int32) (wv_shelves2_sort : Int32) (wv_shelves2_size : Int32) (wv_shelves2_items : List Int64) (wv_shelves3_holds : Int32) (wv_shelves3_sort : Int32) (wv_shelves3_size : Int32) (wv_shelves3_items : List Int64) (wv_shelves4_holds : Int32) (wv_shelves4_sort : Int32) (wv_shelves4_size : Int32) (wv_shelves4_items : List Int64) (wv_shelves5_holds : Int32) (wv_shelves5_sort : Int32) (wv_shelves5_size : Int32) (wv_shelves5_items : List Int64) => 0 ≤ wv_shelves0_size.toInt ∧ wv_shelves0_size.toInt ≤ 60 ∧ wv_shelves0_items.length = 60 ∧ 0 ≤ wv_shelves1_size.toInt ∧ wv_shelves1_size.toInt ≤ 60 ∧ wv_shelves1_items.length = 60 ∧ 0 ≤ wv_shelves2_size.toInt ∧ wv_shelves2_size.toInt ≤ 60 ∧ wv_shelves2_items.length = 60 ∧ 0 ≤ wv_shelves3_size.toInt ∧ wv_shelves3_size.toInt ≤ 60 ∧ wv_shelves3_items.length = 60 ∧ 0 ≤ wv_shelves4_size.toInt ∧ wv_shelves4_size.toInt ≤ 60 ∧ wv_shelves4_items.length = 60 ∧ 0 ≤ wv_shelves5_size.toInt ∧ wv_shelves5_size.toInt ≤ 60 ∧ wv_shelves5_items.length = 60)) := by
  refine wp_of (uf_X8_row _ _ _ _ _ _ _ _ _ _ _ _ _ _ _ _ _ _ _ _ _ _ _ _ _ _ _ _) ?_
  refine wp_in1 ?_
  refine wp_of (uf_X8_isShelf _ _) ?_
  have n_2 : (0 : Int32).toInt = 0 := by decide
  refine wp_if (fun c_1 => ?_) (fun c_1 => ?_)
  ·
    have dc_1 := i_lt c_1
    refine wp_so1 ?_
    show wp _ _
    refine wp_ifp (by decide) ?_
    exact wp_so25 ⟨h_0, h_1, h_2, h_3, h_4, h_5, h_6, h_7, h_8, h_9, h_10, h_11, h_12, h_13, h_14, h_15, h_16, h_17⟩
  ·
    have dc_1 := i_nlt c_1
    have n_4 : (6 : Int32).toInt = 6 := by decide
    refine wp_if (fun c_3 => ?_) (fun c_3 => ?_)
    ·
      have dc_3 := i_le c_3
      refine wp_so1 ?_
      show wp _ _
      refine wp_ifp (by decide) ?_
      exact wp_so25 ⟨h_0, h_1, h_2, h_3, h_4, h_5, h_6, h_7, h_8, h_9, h_10, h_11, h_12, h_13, h_14, h_15, h_16, h_17⟩
    ·
      have dc_3 := i_nle c_3
      refine wp_so1 ?_
      show wp _ _
      refine wp_ifn (by decide) ?_
      refine wp_if (fun c_5 => ?_) (fun c_5 => ?_)
      ·
        have dc_5 := i_lt c_5
        exact wp_so25 ⟨h_0, h_1, h_2, h_3, h_4, h_5, h_6, h_7, h_8, h_9, h_10, h_11, h_12, h_13, h_14, h_15, h_16, h_17⟩
      ·
        have dc_5 := i_nlt c_5
        have n_7 : (5 : Int32).toInt = 5 := by decide
        refine wp_if (fun c_6 => ?_) (fun c_6 => ?_)
        ·
          have dc_6 := i_le c_6
          exact wp_so25 ⟨h_0, h_1, h_2, h_3, h_4, h_5, h_6, h_7, h_8, h_9, h_10, h_11, h_12, h_13, h_14, h_15, h_16, h_17⟩
        ·
          have dc_6 := i_nle c_6
          have n_9 : (60 : Int32).toInt = 60 := by decide
          refine wp_if (fun c_8 => ?_) (fun c_8 => ?_)
          ·
            have dc_8 := i_le c_8
            refine wp_if (fun c_10 => ?_) (fun c_10 => ?_)
            ·
              have dc_10 := i_le c_10
              refine wp_if (fun c_11 => ?_) (fun c_11 => ?_)
              ·
                have dc_11 := i_eq c_11
                refine wp_bd4 (sf_X6_holdRow hN h_0 h_1 h_2 (by omega) (by omega)) (fun w_9 w_10 w_11 w_12 ⟨q_12, q_13, q_14⟩ => ?_)
                exact wp_so25 ⟨q_12, q_13, q_14, h_3, h_4, h_5, h_6, h_7, h_8, h_9, h_10, h_11, h_12, h_13, h_14, h_15, h_16, h_17⟩
              ·
                have dc_11 := i_ne c_11
                have n_16 : (1 : Int32).toInt = 1 := by decide
                refine wp_if (fun c_15 => ?_) (fun c_15 => ?_)
                ·
                  have dc_15 := i_eq c_15
                  refine wp_bd4 (sf_X6_holdRow hN h_3 h_4 h_5 (by omega) (by omega)) (fun w_15 w_16 w_17 w_18 ⟨q_17, q_18, q_19⟩ => ?_)
                  exact wp_so25 ⟨h_0, h_1, h_2, q_17, q_18, q_19, h_6, h_7, h_8, h_9, h_10, h_11, h_12, h_13, h_14, h_15, h_16, h_17⟩
                ·
                  have dc_15 := i_ne c_15
                  have n_21 : (2 : Int32).toInt = 2 := by decide
                  refine wp_if (fun c_20 => ?_) (fun c_20 => ?_)
                  ·
                    have dc_20 := i_eq c_20
                    refine wp_bd4 (sf_X6_holdRow hN h_6 h_7 h_8 (by omega) (by omega)) (fun w_21 w_22 w_23 w_24 ⟨q_22, q_23, q_24⟩ => ?_)
                    exact wp_so25 ⟨h_0, h_1, h_2, h_3, h_4, h_5, q_22, q_23, q_24, h_9, h_10, h_11, h_12, h_13, h_14, h_15, h_16, h_17⟩
                  ·
                    have dc_20 := i_ne c_20
                    have n_26 : (3 : Int32).toInt = 3 := by decide
                    refine wp_if (fun c_25 => ?_) (fun c_25 => ?_)
                    ·
                      have dc_25 := i_eq c_25
                      refine wp_bd4 (sf_X6_holdRow hN h_9 h_10 h_11 (by omega) (by omega)) (fun w_27 w_28 w_29 w_30 ⟨q_27, q_28, q_29⟩ => ?_)
                      exact wp_so25 ⟨h_0, h_1, h_2, h_3, h_4, h_5, h_6, h_7, h_8, q_27, q_28, q_29, h_12, h_13, h_14, h_15, h_16, h_17⟩
                    ·
                      have dc_25 := i_ne c_25
                      have n_31 : (4 : Int32).toInt = 4 := by decide
                      refine wp_if (fun c_30 => ?_) (fun c_30 => ?_)
                      ·
                        have dc_30 := i_eq c_30
                        refine wp_bd4 (sf_X6_holdRow hN h_12 h_13 h_14 (by omega) (by omega)) (fun w_33 w_34 w_35 w_36 ⟨q_32, q_33, q_34⟩ => ?_)
                        exact wp_so25 ⟨h_0, h_1, h_2, h_3, h_4, h_5, h_6, h_7, h_8, h_9, h_10, h_11, q_32, q_33, q_34, h_15, h_16, h_17⟩
                      ·
                        have dc_30 := i_ne c_30
                        refine wp_if (fun c_35 => ?_) (fun c_35 => ?_)
                        ·
                          have dc_35 := i_eq c_35
                          refine wp_bd4 (sf_X6_holdRow hN h_15 h_16 h_17 (by omega) (by omega)) (fun w_39 w_40 w_41 w_42 ⟨q_36, q_37, q_38⟩ => ?_)
                          exact wp_so25 ⟨h_0, h_1, h_2, h_3, h_4, h_5, h_6, h_7, h_8, h_9, h_10, h_11, h_12, h_13, h_14, q_36, q_37, q_38⟩
                        ·
                          have dc_35 := i_ne c_35
                          exact (show False by omega).elim
            ·
              have dc_10 := i_nle c_10
              exact wp_so25 ⟨h_0, h_1, h_2, h_3, h_4, h_5, h_6, h_7, h_8, h_9, h_10, h_11, h_12, h_13, h_14, h_15, h_16, h_17⟩
          ·
            have dc_8 := i_nle c_8
            exact wp_so25 ⟨h_0, h_1, h_2, h_3, h_4, h_5, h_6, h_7, h_8, h_9, h_10, h_11, h_12, h_13, h_14, h_15, h_16, h_17⟩

theorem uf_X8_plans (N : Nat) (x1 : Int32) (x2 : Int32) (x3 : Int32) (v_planned_size : Int32) (v_planned_lines : List Int32) (v_planned_ways : List Int32) (v_shelves0_holds : Int32) (v_shelves0_sort : Int32) (v_shelves0_size : Int32) (v_shelves0_items : List Int64) (v_shelves1_holds : Int32) (v_shelves1_sort : Int32) (v_shelves1_size : Int32) (v_shelves1_items : List Int64) (v_shelves2_holds : Int32) (v_shelves2_sort : Int32) (v_shelves2_size : Int32) (v_shelves2_items : List Int64) (v_shelves3_holds : Int32) (v_shelves3_sort : Int32) (v_shelves3_size : Int32) (v_shelves3_items : List Int64) (v_shelves4_holds : Int32) (v_shelves4_sort : Int32) (v_shelves4_size : Int32) (v_shelves4_items : List Int64) (v_shelves5_holds : Int32) (v_shelves5_sort : Int32) (v_shelves5_size : Int32) (v_shelves5_items : List Int64) : fX8_plans N x1 x2 x3 v_planned_size v_planned_lines v_planned_ways v_shelves0_holds v_shelves0_sort v_shelves0_size v_shelves0_items v_shelves1_holds v_shelves1_sort v_shelves1_size v_shelves1_items v_shelves2_holds v_shelves2_sort v_shelves2_size v_shelves2_items v_shelves3_holds v_shelves3_sort v_shelves3_size v_shelves3_items v_shelves4_holds v_shelves4_sort v_shelves4_size v_shelves4_items v_shelves5_holds v_shelves5_sort v_shelves5_size v_shelves5_items = mm_bd1 (fX8_isShelf N x1) (fun (r_1 : Bool) =>
    if r_1 = false then
    (some ((-1 : Int32), v_planned_size, v_planned_lines, v_planned_ways))
    else (if x3 < (1 : Int32) then
    (some ((-1 : Int32), v_planned_size, v_planned_lines, v_planned_ways))
    else (if x3 ≤ (12 : Int32) then
    (if x1 = (0 : Int32) then
    (if v_shelves0_holds = 0 then
    (some ((0 : Int32), v_planned_size, v_planned_lines, v_planned_ways))
    else (if v_shelves0_holds = (2 : Int32) then
    (if v_shelves0_sort = 0 then
    (if 0 ≤ x2 then
    (mm_bd4 (fX3_appendFrom N x2 x3 v_planned_size v_planned_lines v_planned_ways v_shelves0_size v_shelves0_items) (fun (r_11 : Int32) (w_12 : Int32) (w_13 : List Int32) (w_14 : List Int32) =>
    some (r_11, w_12, w_13, w_14)))
    else (some ((0 : Int32), v_planned_size, v_planned_lines, v_planned_ways)))
    else (some ((-12 : Int32), v_planned_size, v_planned_lines, v_planned_ways)))
    else (some ((-12 : Int32), v_planned_size, v_planned_lines, v_planned_ways))))
    else (if x1 = (1 : Int32) then
    (if v_shelves1_holds = 0 then
    (some ((0 : Int32), v_planned_size, v_planned_lines, v_planned_ways))
    else (if v_shelves1_holds = (2 : Int32) then
    (if v_shelves1_sort = 0 then
    (if 0 ≤ x2 then
    (mm_bd4 (fX3_appendFrom N x2 x3 v_planned_size v_planned_lines v_planned_ways v_shelves1_size v_shelves1_items) (fun (r_21 : Int32) (w_22 : Int32) (w_23 : List Int32) (w_24 : List Int32) =>
    some (r_21, w_22, w_23, w_24)))
    else (some ((0 : Int32), v_planned_size, v_planned_lines, v_planned_ways)))
    else (some ((-12 : Int32), v_planned_size, v_planned_lines, v_planned_ways)))
    else (some ((-12 : Int32), v_planned_size, v_planned_lines, v_planned_ways))))
    else (if x1 = (2 : Int32) then
    (if v_shelves2_holds = 0 then
    (some ((0 : Int32), v_planned_size, v_planned_lines, v_planned_ways))
    else (if v_shelves2_holds = (2 : Int32) then
    (if v_shelves2_sort = 0 then
    (if 0 ≤ x2 then
    (mm_bd4 (fX3_appendFrom N x2 x3 v_planned_size v_planned_lines v_planned_ways v_shelves2_size v_shelves2_items) (fun (r_31 : Int32) (w_32 : Int32) (w_33 : List Int32) (w_34 : List Int32) =>
    some (r_31, w_32, w_33, w_34)))
    else (some ((0 : Int32), v_planned_size, v_planned_lines, v_planned_ways)))
    else (some ((-12 : Int32), v_planned_size, v_planned_lines, v_planned_ways)))
    else (some ((-12 : Int32), v_planned_size, v_planned_lines, v_planned_ways))))
    else (if x1 = (3 : Int32) then
    (if v_shelves3_holds = 0 then
    (some ((0 : Int32), v_planned_size, v_planned_lines, v_planned_ways))
    else (if v_shelves3_holds = (2 : Int32) then
    (if v_shelves3_sort = 0 then
    (if 0 ≤ x2 then
    (mm_bd4 (fX3_appendFrom N x2 x3 v_planned_size v_planned_lines v_planned_ways v_shelves3_size v_shelves3_items) (fun (r_41 : Int32) (w_42 : Int32) (w_43 : List Int32) (w_44 : List Int32) =>
    some (r_41, w_42, w_43, w_44)))
    else (some ((0 : Int32), v_planned_size, v_planned_lines, v_planned_ways)))
    else (some ((-12 : Int32), v_planned_size, v_planned_lines, v_planned_ways)))
    else (some ((-12 : Int32), v_planned_size, v_planned_lines, v_planned_ways))))
    else (if x1 = (4 : Int32) then
    (if v_shelves4_holds = 0 then
    (some ((0 : Int32), v_planned_size, v_planned_lines, v_planned_ways))
    else (if v_shelves4_holds = (2 : Int32) then
    (if v_shelves4_sort = 0 then
    (if 0 ≤ x2 then
    (mm_bd4 (fX3_appendFrom N x2 x3 v_planned_size v_planned_lines v_planned_ways v_shelves4_size v_shelves4_items) (fun (r_51 : Int32) (w_52 : Int32) (w_53 : List Int32) (w_54 : List Int32) =>
    some (r_51, w_52, w_53, w_54)))
    else (some ((0 : Int32), v_planned_size, v_planned_lines, v_planned_ways)))
    else (some ((-12 : Int32), v_planned_size, v_planned_lines, v_planned_ways)))
    else (some ((-12 : Int32), v_planned_size, v_planned_lines, v_planned_ways))))
    else (if x1 = (5 : Int32) then
    (if v_shelves5_holds = 0 then
    (some ((0 : Int32), v_planned_size, v_planned_lines, v_planned_ways))
    else (if v_shelves5_holds = (2 : Int32) then
    (if v_shelves5_sort = 0 then
    (if 0 ≤ x2 then
    (mm_bd4 (fX3_appendFrom N x2 x3 v_planned_size v_planned_lines v_planned_ways v_shelves5_size v_shelves5_items) (fun (r_61 : Int32) (w_62 : Int32) (w_63 : List Int32) (w_64 : List Int32) =>
    some (r_61, w_62, w_63, w_64)))
    else (some ((0 : Int32), v_planned_size, v_planned_lines, v_planned_ways)))
    else (some ((-12 : Int32), v_planned_size, v_planned_lines, v_planned_ways)))
    else (some ((-12 : Int32), v_planned_size, v_planned_lines, v_planned_ways))))
    else (none)))))))
    else (some ((-1 : Int32), v_planned_size, v_planned_lines, v_planned_ways))))) := rfl

set_option maxHeartbeats 4000000 in
set_option maxRecDepth 20000 in
theorem sf_X8_plans {N : Nat} (hN : 700 ≤ N) {x1 : Int32} {x2 : Int32} {x3 : Int32} {v_planned_size : Int32} {v_planned_lines : List Int32} {v_planned_ways : List Int32} {v_shelves0_holds : Int32} {v_shelves0_sort : Int32} {v_shelves0_size : Int32} {v_shelves0_items : List Int64} {v_shelves1_holds : Int32} {v_shelves1_sort : Int32} {v_shelves1_size : Int32} {v_shelves1_items : List Int64} {v_shelves2_holds : Int32} {v_shelves2_sort : Int32} {v_shelves2_size : Int32} {v_shelves2_items : List Int64} {v_shelves3_holds : Int32} {v_shelves3_sort : Int32} {v_shelves3_size : Int32} {v_shelves3_items : List Int64} {v_shelves4_holds : Int32} {v_shelves4_sort : Int32} {v_shelves4_size : Int32} {v_shelves4_items : List Int64} {v_shelves5_holds : Int32} {v_shelves5_sort : Int32} {v_shelves5_size : Int32} {v_shelves5_items : List Int64} (h_0 : 0 ≤ v_planned_size.toInt) (h_1 : v_planned_size.toInt ≤ 12) (h_2 : v_planned_lines.length = 12) (h_3 : v_planned_ways.length = 12) (h_4 : 0 ≤ v_shelves0_size.toInt) (h_5 : v_shelves0_size.toInt ≤ 60) (h_6 : v_shelves0_items.length = 60) (h_7 : 0 ≤ v_shelves1_size.toInt) (h_8 : v_shelves1_size.toInt ≤ 60) (h_9 : v_shelves1_items.length = 60) (h_10 : 0 ≤ v_shelves2_size.toInt) (h_11 : v_shelves2_size.toInt ≤ 60) (h_12 : v_shelves2_items.length = 60) (h_13 : 0 ≤ v_shelves3_size.toInt) (h_14 : v_shelves3_size.toInt ≤ 60) (h_15 : v_shelves3_items.length = 60) (h_16 : 0 ≤ v_shelves4_size.toInt) (h_17 : v_shelves4_size.toInt ≤ 60) (h_18 : v_shelves4_items.length = 60) (h_19 : 0 ≤ v_shelves5_size.toInt) (h_20 : v_shelves5_size.toInt ≤ 60) (h_21 : v_shelves5_items.length = 60) : wp (fX8_plans N x1 x2 x3 v_planned_size v_planned_lines v_planned_ways v_shelves0_holds v_shelves0_sort v_shelves0_size v_shelves0_items v_shelves1_holds v_shelves1_sort v_shelves1_size v_shelves1_items v_shelves2_holds v_shelves2_sort v_shelves2_size v_shelves2_items v_shelves3_holds v_shelves3_sort v_shelves3_size v_shelves3_items v_shelves4_holds v_shelves4_sort v_shelves4_size v_shelves4_items v_shelves5_holds v_shelves5_sort v_shelves5_size v_shelves5_items) (cu4 (fun (r : Int32) (wv_planned_size : Int32) (wv_planned_lines : List Int32) (wv_planned_ways : List Int32) => 0 ≤ wv_planned_size.toInt ∧ wv_planned_size.toInt ≤ 12 ∧ wv_planned_lines.length = 12 ∧ wv_planned_ways.length = 12)) := by
  refine wp_of (uf_X8_plans _ _ _ _ _ _ _ _ _ _ _ _ _ _ _ _ _ _ _ _ _ _ _ _ _ _ _ _ _ _ _) ?_
  refine wp_in1 ?_
  refine wp_of (uf_X8_isShelf _ _) ?_
  have n_2 : (0 : Int32).toInt = 0 := by decide
  refine wp_if (fun c_1 => ?_) (fun c_1 => ?_)
  ·
    have dc_1 := i_lt c_1
    refine wp_so1 ?_
    show wp _ _
    refine wp_ifp (by decide) ?_
    exact wp_so4 ⟨h_0, h_1, h_2, h_3⟩
  ·
    have dc_1 := i_nlt c_1
    have n_4 : (6 : Int32).toInt = 6 := by decide
    refine wp_if (fun c_3 => ?_) (fun c_3 => ?_)
    ·
      have dc_3 := i_le c_3
      refine wp_so1 ?_
      show wp _ _
      refine wp_ifp (by decide) ?_
      exact wp_so4 ⟨h_0, h_1, h_2, h_3⟩
    ·
      have dc_3 := i_nle c_3
      refine wp_so1 ?_
      show wp _ _
      refine wp_ifn (by decide) ?_
      have n_6 : (1 : Int32).toInt = 1 := by decide
      refine wp_if (fun c_5 => ?_) (fun c_5 => ?_)
      ·
        have dc_5 := i_lt c_5
        exact wp_so4 ⟨h_0, h_1, h_2, h_3⟩
      ·
        have dc_5 := i_nlt c_5
        have n_8 : (12 : Int32).toInt = 12 := by decide
        refine wp_if (fun c_7 => ?_) (fun c_7 => ?_)
        ·
          have dc_7 := i_le c_7
          refine wp_if (fun c_9 => ?_) (fun c_9 => ?_)
          ·
            have dc_9 := i_eq c_9
            refine wp_if (fun c_10 => ?_) (fun c_10 => ?_)
            ·
              have dc_10 := i_eq c_10
              exact wp_so4 ⟨h_0, h_1, h_2, h_3⟩
            ·
              have dc_10 := i_ne c_10
              have n_12 : (2 : Int32).toInt = 2 := by decide
              refine wp_if (fun c_11 => ?_) (fun c_11 => ?_)
              ·
                have dc_11 := i_eq c_11
                refine wp_if (fun c_13 => ?_) (fun c_13 => ?_)
                ·
                  have dc_13 := i_eq c_13
                  refine wp_if (fun c_14 => ?_) (fun c_14 => ?_)
                  ·
                    have dc_14 := i_le c_14
                    refine wp_bd4 (sf_X3_appendFrom hN h_0 h_1 h_2 h_3 h_4 h_5 h_6 (by omega) (by omega)) (fun r_11 w_12 w_13 w_14 ⟨q_15, q_16, q_17, q_18⟩ => ?_)
                    exact wp_so4 ⟨q_15, q_16, q_17, q_18⟩
                  ·
                    have dc_14 := i_nle c_14
                    exact wp_so4 ⟨h_0, h_1, h_2, h_3⟩
                ·
                  have dc_13 := i_ne c_13
                  exact wp_so4 ⟨h_0, h_1, h_2, h_3⟩
              ·
                have dc_11 := i_ne c_11
                exact wp_so4 ⟨h_0, h_1, h_2, h_3⟩
          ·
            have dc_9 := i_ne c_9
            refine wp_if (fun c_19 => ?_) (fun c_19 => ?_)
            ·
              have dc_19 := i_eq c_19
              refine wp_if (fun c_20 => ?_) (fun c_20 => ?_)
              ·
                have dc_20 := i_eq c_20
                exact wp_so4 ⟨h_0, h_1, h_2, h_3⟩
              ·
                have dc_20 := i_ne c_20
                have n_22 : (2 : Int32).toInt = 2 := by decide
                refine wp_if (fun c_21 => ?_) (fun c_21 => ?_)
                ·
                  have dc_21 := i_eq c_21
                  refine wp_if (fun c_23 => ?_) (fun c_23 => ?_)
                  ·
                    have dc_23 := i_eq c_23
                    refine wp_if (fun c_24 => ?_) (fun c_24 => ?_)
                    ·
                      have dc_24 := i_le c_24
                      refine wp_bd4 (sf_X3_appendFrom hN h_0 h_1 h_2 h_3 h_7 h_8 h_9 (by omega) (by omega)) (fun r_21 w_22 w_23 w_24 ⟨q_25, q_26, q_27, q_28⟩ => ?_)
                      exact wp_so4 ⟨q_25, q_26, q_27, q_28⟩
                    ·
                      have dc_24 := i_nle c_24
                      exact wp_so4 ⟨h_0, h_1, h_2, h_3⟩
                  ·
                    have dc_23 := i_ne c_23
                    exact wp_so4 ⟨h_0, h_1, h_2, h_3⟩
                ·
                  have dc_21 := i_ne c_21
                  exact wp_so4 ⟨h_0, h_1, h_2, h_3⟩
            ·
              have dc_19 := i_ne c_19
              have n_30 : (2 : Int32).toInt = 2 := by decide
              refine wp_if (fun c_29 => ?_) (fun c_29 => ?_)
              ·
                have dc_29 := i_eq c_29
                refine wp_if (fun c_31 => ?_) (fun c_31 => ?_)
                ·
                  have dc_31 := i_eq c_31
                  exact wp_so4 ⟨h_0, h_1, h_2, h_3⟩
                ·
                  have dc_31 := i_ne c_31
                  refine wp_if (fun c_32 => ?_) (fun c_32 => ?_)
                  ·
                    have dc_32 := i_eq c_32
                    refine wp_if (fun c_33 => ?_) (fun c_33 => ?_)
                    ·
                      have dc_33 := i_eq c_33
                      refine wp_if (fun c_34 => ?_) (fun c_34 => ?_)
                      ·
                        have dc_34 := i_le c_34
                        refine wp_bd4 (sf_X3_appendFrom hN h_0 h_1 h_2 h_3 h_10 h_11 h_12 (by omega) (by omega)) (fun r_31 w_32 w_33 w_34 ⟨q_35, q_36, q_37, q_38⟩ => ?_)
                        exact wp_so4 ⟨q_35, q_36, q_37, q_38⟩
                      ·
                        have dc_34 := i_nle c_34
                        exact wp_so4 ⟨h_0, h_1, h_2, h_3⟩
                    ·
                      have dc_33 := i_ne c_33
                      exact wp_so4 ⟨h_0, h_1, h_2, h_3⟩
                  ·
                    have dc_32 := i_ne c_32
                    exact wp_so4 ⟨h_0, h_1, h_2, h_3⟩
              ·
                have dc_29 := i_ne c_29
                have n_40 : (3 : Int32).toInt = 3 := by decide
                refine wp_if (fun c_39 => ?_) (fun c_39 => ?_)
                ·
                  have dc_39 := i_eq c_39
                  refine wp_if (fun c_41 => ?_) (fun c_41 => ?_)
                  ·
                    have dc_41 := i_eq c_41
                    exact wp_so4 ⟨h_0, h_1, h_2, h_3⟩
                  ·
                    have dc_41 := i_ne c_41
                    refine wp_if (fun c_42 => ?_) (fun c_42 => ?_)
                    ·
                      have dc_42 := i_eq c_42
                      refine wp_if (fun c_43 => ?_) (fun c_43 => ?_)
                      ·
                        have dc_43 := i_eq c_43
                        refine wp_if (fun c_44 => ?_) (fun c_44 => ?_)
                        ·
                          have dc_44 := i_le c_44
                          refine wp_bd4 (sf_X3_appendFrom hN h_0 h_1 h_2 h_3 h_13 h_14 h_15 (by omega) (by omega)) (fun r_41 w_42 w_43 w_44 ⟨q_45, q_46, q_47, q_48⟩ => ?_)
                          exact wp_so4 ⟨q_45, q_46, q_47, q_48⟩
                        ·
                          have dc_44 := i_nle c_44
                          exact wp_so4 ⟨h_0, h_1, h_2, h_3⟩
                      ·
                        have dc_43 := i_ne c_43
                        exact wp_so4 ⟨h_0, h_1, h_2, h_3⟩
                    ·
                      have dc_42 := i_ne c_42
                      exact wp_so4 ⟨h_0, h_1, h_2, h_3⟩
                ·
                  have dc_39 := i_ne c_39
                  have n_50 : (4 : Int32).toInt = 4 := by decide
                  refine wp_if (fun c_49 => ?_) (fun c_49 => ?_)
                  ·
                    have dc_49 := i_eq c_49
                    refine wp_if (fun c_51 => ?_) (fun c_51 => ?_)
                    ·
                      have dc_51 := i_eq c_51
                      exact wp_so4 ⟨h_0, h_1, h_2, h_3⟩
                    ·
                      have dc_51 := i_ne c_51
                      refine wp_if (fun c_52 => ?_) (fun c_52 => ?_)
                      ·
                        have dc_52 := i_eq c_52
                        refine wp_if (fun c_53 => ?_) (fun c_53 => ?_)
                        ·
                          have dc_53 := i_eq c_53
                          refine wp_if (fun c_54 => ?_) (fun c_54 => ?_)
                          ·
                            have dc_54 := i_le c_54
                            refine wp_bd4 (sf_X3_appendFrom hN h_0 h_1 h_2 h_3 h_16 h_17 h_18 (by omega) (by omega)) (fun r_51 w_52 w_53 w_54 ⟨q_55, q_56, q_57, q_58⟩ => ?_)
                            exact wp_so4 ⟨q_55, q_56, q_57, q_58⟩
                          ·
                            have dc_54 := i_nle c_54
                            exact wp_so4 ⟨h_0, h_1, h_2, h_3⟩
                        ·
                          have dc_53 := i_ne c_53
                          exact wp_so4 ⟨h_0, h_1, h_2, h_3⟩
                      ·
                        have dc_52 := i_ne c_52
                        exact wp_so4 ⟨h_0, h_1, h_2, h_3⟩
                  ·
                    have dc_49 := i_ne c_49
                    have n_60 : (5 : Int32).toInt = 5 := by decide
                    refine wp_if (fun c_59 => ?_) (fun c_59 => ?_)
                    ·
                      have dc_59 := i_eq c_59
                      refine wp_if (fun c_61 => ?_) (fun c_61 => ?_)
                      ·
                        have dc_61 := i_eq c_61
                        exact wp_so4 ⟨h_0, h_1, h_2, h_3⟩
                      ·
                        have dc_61 := i_ne c_61
                        refine wp_if (fun c_62 => ?_) (fun c_62 => ?_)
                        ·
                          have dc_62 := i_eq c_62
                          refine wp_if (fun c_63 => ?_) (fun c_63 => ?_)
                          ·
                            have dc_63 := i_eq c_63
                            refine wp_if (fun c_64 => ?_) (fun c_64 => ?_)
                            ·
                              have dc_64 := i_le c_64
                              refine wp_bd4 (sf_X3_appendFrom hN h_0 h_1 h_2 h_3 h_19 h_20 h_21 (by omega) (by omega)) (fun r_61 w_62 w_63 w_64 ⟨q_65, q_66, q_67, q_68⟩ => ?_)
                              exact wp_so4 ⟨q_65, q_66, q_67, q_68⟩
                            ·
                              have dc_64 := i_nle c_64
                              exact wp_so4 ⟨h_0, h_1, h_2, h_3⟩
                          ·
                            have dc_63 := i_ne c_63
                            exact wp_so4 ⟨h_0, h_1, h_2, h_3⟩
                        ·
                          have dc_62 := i_ne c_62
                          exact wp_so4 ⟨h_0, h_1, h_2, h_3⟩
                    ·
                      have dc_59 := i_ne c_59
                      exact (show False by omega).elim
        ·
          have dc_7 := i_nle c_7
          exact wp_so4 ⟨h_0, h_1, h_2, h_3⟩
