/-! safe -/
theorem uf_X9_image (N : Nat) (v_rowsOf : Int32) (v_columnsOf : Int32) (v_folded : Int32) (v_wronged : Int32) (v_isKept : Bool) (v_imageRows : Int32) (v_imageColumns : Int32) (v_imageFolded : Int32) (v_imageWronged : Int32) (v_shapeRows : List Int32) (v_shapeColumns : List Int32) (v_row : List Int32) (v_column : List Int32) (v_below : List Int32) (v_face : List Int32) (v_worn : List Int32) (v_lastBend : List Int32) : fX9_image N v_rowsOf v_columnsOf v_folded v_wronged v_isKept v_imageRows v_imageColumns v_imageFolded v_imageWronged v_shapeRows v_shapeColumns v_row v_column v_below v_face v_worn v_lastBend = mm_bd8 (fX9_copies N (0 : Int32) (5 : Int32) v_shapeRows v_shapeColumns v_row v_column v_below v_face v_worn v_lastBend) (fun (w_1 : List Int32) (w_2 : List Int32) (w_3 : List Int32) (w_4 : List Int32) (w_5 : List Int32) (w_6 : List Int32) (w_7 : List Int32) (w_8 : List Int32) =>
    some (v_folded, true, v_rowsOf, v_columnsOf, v_folded, v_wronged, w_1, w_2, w_3, w_4, w_5, w_6, w_7, w_8)) := rfl

set_option maxHeartbeats 4000000 in
set_option maxRecDepth 20000 in
theorem sf_X9_image {N : Nat} (hN : 700 ≤ N) {u_row : List Int32} {u_col : List Int32} {u_sR : List Int32} {u_sC : List Int32} {A : Int} {B9 : Int} {a9 : Int} {b9 : Int} {v_rowsOf : Int32} {v_columnsOf : Int32} {v_folded : Int32} {v_wronged : Int32} {v_isKept : Bool} {v_imageRows : Int32} {v_imageColumns : Int32} {v_imageFolded : Int32} {v_imageWronged : Int32} {v_shapeRows : List Int32} {v_shapeColumns : List Int32} {v_row : List Int32} {v_column : List Int32} {v_below : List Int32} {v_face : List Int32} {v_worn : List Int32} {v_lastBend : List Int32} (h_0 : 1 ≤ v_rowsOf.toInt) (h_1 : v_rowsOf.toInt ≤ 4) (h_2 : 1 ≤ v_columnsOf.toInt) (h_3 : v_columnsOf.toInt ≤ 8) (h_4 : v_shapeRows.length = 6) (h_5 : v_shapeColumns.length = 6) (h_6 : v_row.length = 192) (h_7 : v_column.length = 192) (h_8 : v_below.length = 192) (h_9 : v_face.length = 192) (h_10 : v_worn.length = 384) (h_11 : v_lastBend.length = 384) (h_12 : fr u_row v_row A B9) (h_13 : fr u_col v_column A B9) (h_14 : fr u_sR v_shapeRows a9 b9) (h_15 : fr u_sC v_shapeColumns a9 b9) (h_16 : A ≤ 32 * (5 : Int32).toInt) (h_17 : 32 * (5 : Int32).toInt + 32 ≤ B9) (h_18 : a9 ≤ (5 : Int32).toInt) (h_19 : (5 : Int32).toInt < b9) (h_20 : lv9 v_rowsOf v_columnsOf v_shapeRows v_shapeColumns v_row v_column (0 : Int32)) : wp (fX9_image N v_rowsOf v_columnsOf v_folded v_wronged v_isKept v_imageRows v_imageColumns v_imageFolded v_imageWronged v_shapeRows v_shapeColumns v_row v_column v_below v_face v_worn v_lastBend) (cu14 (fun (r : Int32) (wv_isKept : Bool) (wv_imageRows : Int32) (wv_imageColumns : Int32) (wv_imageFolded : Int32) (wv_imageWronged : Int32) (wv_shapeRows : List Int32) (wv_shapeColumns : List Int32) (wv_row : List Int32) (wv_column : List Int32) (wv_below : List Int32) (wv_face : List Int32) (wv_worn : List Int32) (wv_lastBend : List Int32) => wv_shapeRows.length = 6 ∧ wv_shapeColumns.length = 6 ∧ wv_row.length = 192 ∧ wv_column.length = 192 ∧ wv_below.length = 192 ∧ wv_face.length = 192 ∧ wv_worn.length = 384 ∧ wv_lastBend.length = 384 ∧ fr u_row wv_row A B9 ∧ fr u_col wv_column A B9 ∧ fr u_sR wv_shapeRows a9 b9 ∧ fr u_sC wv_shapeColumns a9 b9 ∧ lv9 wv_imageRows wv_imageColumns wv_shapeRows wv_shapeColumns wv_row wv_column (5 : Int32) ∧ 1 ≤ wv_imageRows.toInt ∧ wv_imageRows.toInt ≤ 4 ∧ 1 ≤ wv_imageColumns.toInt ∧ wv_imageColumns.toInt ≤ 8)) := by
  have m3 := (i_fl (a := v_rowsOf) (b := v_columnsOf) (by omega) (by omega) (by omega) (by omega)).2
  refine wp_of (uf_X9_image _ _ _ _ _ _ _ _ _ _ _ _ _ _ _ _ _ _) ?_
  have n_1 : (0 : Int32).toInt = 0 := by decide
  have n_2 : (5 : Int32).toInt = 5 := by decide
  refine wp_bd8 (sf_X9_copies (u_row := u_row) (u_col := u_col) (u_sR := u_sR) (u_sC := u_sC) (A := A) (B9 := B9) (a9 := a9) (b9 := b9) (R9 := v_rowsOf) (C9 := v_columnsOf) hN h_4 h_5 h_6 h_7 h_8 h_9 h_10 h_11 (by omega) (by omega) (by omega) (by omega) (by omega) (by omega) (by omega) h_12 h_13 h_14 h_15 h_16 h_17 h_18 h_19 (by first | assumption | exact (show lvI _ _ _ _ _ _ _ by assumption) _ (by omega) | exact lv9_fr (by assumption) (by assumption) (by assumption) (by assumption) (by assumption) (by omega) (by omega) (by omega) (by omega) (by omega) | exact ⟨by omega, by omega, by omega, by omega, (by first | assumption | exact zn_nil (by omega) | (exfalso; omega)), (by first | assumption | exact zn_nil (by omega) | (exfalso; omega))⟩)) (fun w_1 w_2 w_3 w_4 w_5 w_6 w_7 w_8 ⟨q_3, q_4, q_5, q_6, q_7, q_8, q_9, q_10, q_11, q_12, q_13, q_14, q_15, q_16, q_17⟩ => ?_)
  exact wp_so14 ⟨q_3, q_4, q_5, q_6, q_7, q_8, q_9, q_10, q_11, q_12, q_13, q_14, (by first | assumption | exact (show lvI _ _ _ _ _ _ _ by assumption) _ (by omega) | exact lv9_fr (by assumption) (by assumption) (by assumption) (by assumption) (by assumption) (by omega) (by omega) (by omega) (by omega) (by omega) | exact ⟨by omega, by omega, by omega, by omega, (by first | assumption | exact zn_nil (by omega) | (exfalso; omega)), (by first | assumption | exact zn_nil (by omega) | (exfalso; omega))⟩), h_0, h_1, h_2, h_3⟩

theorem uf_X9_back (N : Nat) (v_rowsOf : Int32) (v_columnsOf : Int32) (v_folded : Int32) (v_wronged : Int32) (v_isKept : Bool) (v_imageRows : Int32) (v_imageColumns : Int32) (v_imageFolded : Int32) (v_imageWronged : Int32) (v_shapeRows : List Int32) (v_shapeColumns : List Int32) (v_row : List Int32) (v_column : List Int32) (v_below : List Int32) (v_face : List Int32) (v_worn : List Int32) (v_lastBend : List Int32) : fX9_back N v_rowsOf v_columnsOf v_folded v_wronged v_isKept v_imageRows v_imageColumns v_imageFolded v_imageWronged v_shapeRows v_shapeColumns v_row v_column v_below v_face v_worn v_lastBend = if v_isKept = false then
    (some ((-5 : Int32), v_rowsOf, v_columnsOf, v_folded, v_wronged, v_shapeRows, v_shapeColumns, v_row, v_column, v_below, v_face, v_worn, v_lastBend))
    else (mm_bd8 (fX9_copies N (5 : Int32) (0 : Int32) v_shapeRows v_shapeColumns v_row v_column v_below v_face v_worn v_lastBend) (fun (w_2 : List Int32) (w_3 : List Int32) (w_4 : List Int32) (w_5 : List Int32) (w_6 : List Int32) (w_7 : List Int32) (w_8 : List Int32) (w_9 : List Int32) =>
    some (v_imageFolded, v_imageRows, v_imageColumns, v_imageFolded, v_imageWronged, w_2, w_3, w_4, w_5, w_6, w_7, w_8, w_9))) := rfl

set_option maxHeartbeats 4000000 in
set_option maxRecDepth 20000 in
theorem sf_X9_back {N : Nat} (hN : 700 ≤ N) {u_row : List Int32} {u_col : List Int32} {u_sR : List Int32} {u_sC : List Int32} {A : Int} {B9 : Int} {a9 : Int} {b9 : Int} {v_rowsOf : Int32} {v_columnsOf : Int32} {v_folded : Int32} {v_wronged : Int32} {v_isKept : Bool} {v_imageRows : Int32} {v_imageColumns : Int32} {v_imageFolded : Int32} {v_imageWronged : Int32} {v_shapeRows : List Int32} {v_shapeColumns : List Int32} {v_row : List Int32} {v_column : List Int32} {v_below : List Int32} {v_face : List Int32} {v_worn : List Int32} {v_lastBend : List Int32} (h_0 : 1 ≤ v_rowsOf.toInt) (h_1 : v_rowsOf.toInt ≤ 4) (h_2 : 1 ≤ v_columnsOf.toInt) (h_3 : v_columnsOf.toInt ≤ 8) (h_4 : v_shapeRows.length = 6) (h_5 : v_shapeColumns.length = 6) (h_6 : v_row.length = 192) (h_7 : v_column.length = 192) (h_8 : v_below.length = 192) (h_9 : v_face.length = 192) (h_10 : v_worn.length = 384) (h_11 : v_lastBend.length = 384) (h_12 : fr u_row v_row A B9) (h_13 : fr u_col v_column A B9) (h_14 : fr u_sR v_shapeRows a9 b9) (h_15 : fr u_sC v_shapeColumns a9 b9) (h_16 : A ≤ 32 * (0 : Int32).toInt) (h_17 : 32 * (0 : Int32).toInt + 32 ≤ B9) (h_18 : a9 ≤ (0 : Int32).toInt) (h_19 : (0 : Int32).toInt < b9) (h_20 : ¬ (v_isKept = false)) (h_21 : 1 ≤ v_imageRows.toInt) (h_22 : v_imageRows.toInt ≤ 4) (h_23 : 1 ≤ v_imageColumns.toInt) (h_24 : v_imageColumns.toInt ≤ 8) (h_25 : lv9 v_imageRows v_imageColumns v_shapeRows v_shapeColumns v_row v_column (5 : Int32)) : wp (fX9_back N v_rowsOf v_columnsOf v_folded v_wronged v_isKept v_imageRows v_imageColumns v_imageFolded v_imageWronged v_shapeRows v_shapeColumns v_row v_column v_below v_face v_worn v_lastBend) (cu13 (fun (r : Int32) (wv_rowsOf : Int32) (wv_columnsOf : Int32) (wv_folded : Int32) (wv_wronged : Int32) (wv_shapeRows : List Int32) (wv_shapeColumns : List Int32) (wv_row : List Int32) (wv_column : List Int32) (wv_below : List Int32) (wv_face : List Int32) (wv_worn : List Int32) (wv_lastBend : List Int32) => 1 ≤ wv_rowsOf.toInt ∧ wv_rowsOf.toInt ≤ 4 ∧ 1 ≤ wv_columnsOf.toInt ∧ wv_columnsOf.toInt ≤ 8 ∧ wv_shapeRows.length = 6 ∧ wv_shapeColumns.length = 6 ∧ wv_row.length = 192 ∧ wv_column.length = 192 ∧ wv_below.length = 192 ∧ wv_face.length = 192 ∧ wv_worn.length = 384 ∧ wv_lastBend.length = 384 ∧ fr u_row wv_row A B9 ∧ fr u_col wv_column A B9 ∧ fr u_sR wv_shapeRows a9 b9 ∧ fr u_sC wv_shapeColumns a9 b9 ∧ lv9 wv_rowsOf wv_columnsOf wv_shapeRows wv_shapeColumns wv_row wv_column (0 : Int32))) := by
  have m3 := (i_fl (a := v_imageRows) (b := v_imageColumns) (by omega) (by omega) (by omega) (by omega)).2
  refine wp_of (uf_X9_back _ _ _ _ _ _ _ _ _ _ _ _ _ _ _ _ _ _) ?_
  refine wp_ifn h_20 ?_
  have n_1 : (5 : Int32).toInt = 5 := by decide
  have n_2 : (0 : Int32).toInt = 0 := by decide
  refine wp_bd8 (sf_X9_copies (u_row := u_row) (u_col := u_col) (u_sR := u_sR) (u_sC := u_sC) (A := A) (B9 := B9) (a9 := a9) (b9 := b9) (R9 := v_imageRows) (C9 := v_imageColumns) hN h_4 h_5 h_6 h_7 h_8 h_9 h_10 h_11 (by omega) (by omega) (by omega) (by omega) (by omega) (by omega) (by omega) h_12 h_13 h_14 h_15 h_16 h_17 h_18 h_19 (by first | assumption | exact (show lvI _ _ _ _ _ _ _ by assumption) _ (by omega) | exact lv9_fr (by assumption) (by assumption) (by assumption) (by assumption) (by assumption) (by omega) (by omega) (by omega) (by omega) (by omega) | exact ⟨by omega, by omega, by omega, by omega, (by first | assumption | exact zn_nil (by omega) | (exfalso; omega)), (by first | assumption | exact zn_nil (by omega) | (exfalso; omega))⟩)) (fun w_2 w_3 w_4 w_5 w_6 w_7 w_8 w_9 ⟨q_3, q_4, q_5, q_6, q_7, q_8, q_9, q_10, q_11, q_12, q_13, q_14, q_15, q_16, q_17⟩ => ?_)
  exact wp_so13 ⟨h_21, h_22, h_23, h_24, q_3, q_4, q_5, q_6, q_7, q_8, q_9, q_10, q_11, q_12, q_13, q_14, (by first | assumption | exact (show lvI _ _ _ _ _ _ _ by assumption) _ (by omega) | exact lv9_fr (by assumption) (by assumption) (by assumption) (by assumption) (by assumption) (by omega) (by omega) (by omega) (by omega) (by omega) | exact ⟨by omega, by omega, by omega, by omega, (by first | assumption | exact zn_nil (by omega) | (exfalso; omega)), (by first | assumption | exact zn_nil (by omega) | (exfalso; omega))⟩)⟩

theorem uf_X9_ends1_157 (N : Nat) (n : Nat) (x1 : Int32) (x6 : Int32) (v_rowsOf : Int32) (v_columnsOf : Int32) (v_wishedField : Int32) (v_isFound : Bool) (v_bestWrong : Int32) (v_bestWorn : Int32) (v_bestMany : Int32) (v_row : List Int32) (v_column : List Int32) (v_below : List Int32) (v_way1 : List Int32) (v_bestWay : List Int32) : fX9_ends1_157 N (n + 1) x1 x6 v_rowsOf v_columnsOf v_wishedField v_isFound v_bestWrong v_bestWorn v_bestMany v_row v_column v_below v_way1 v_bestWay = 
    if x1 ≤ x6 then
    (some (v_isFound, v_bestWrong, v_bestWorn, v_bestMany, v_bestWay))
    else (mm_ck (mm_inb x6 v_way1.length) (mm_nm ((mm_ig v_way1 x6)) (fun (y_13 : Int32) =>
    mm_ck (mm_inb x6 v_bestWay.length) (mm_nm (mm_is v_bestWay x6 y_13) (fun (l_15 : List Int32) =>
    mm_nm (x6 + (1 : Int32)) (fun (y_16 : Int32) =>
    fX9_ends1_157 N n x1 y_16 v_rowsOf v_columnsOf v_wishedField v_isFound v_bestWrong v_bestWorn v_bestMany v_row v_column v_below v_way1 l_15)))))) := rfl

set_option maxHeartbeats 4000000 in
set_option maxRecDepth 20000 in
theorem sf_X9_ends1_157 {N : Nat} (hN : 700 ≤ N)  : ∀ (n : Nat) (x1 : Int32) (x6 : Int32) (v_rowsOf : Int32) (v_columnsOf : Int32) (v_wishedField : Int32) (v_isFound : Bool) (v_bestWrong : Int32) (v_bestWorn : Int32) (v_bestMany : Int32) (v_row : List Int32) (v_column : List Int32) (v_below : List Int32) (v_way1 : List Int32) (v_bestWay : List Int32), 1 ≤ v_rowsOf.toInt → v_rowsOf.toInt ≤ 4 → 1 ≤ v_columnsOf.toInt → v_columnsOf.toInt ≤ 8 → 0 ≤ v_bestMany.toInt → v_bestMany.toInt ≤ 3 → v_row.length = 192 → v_column.length = 192 → v_below.length = 192 → v_way1.length = 3 → v_bestWay.length = 3 → 0 ≤ x1.toInt → x1.toInt ≤ 3 → 0 ≤ x6.toInt → x6.toInt ≤ 3 → (4 - x6.toInt).toNat < n → wp (fX9_ends1_157 N n x1 x6 v_rowsOf v_columnsOf v_wishedField v_isFound v_bestWrong v_bestWorn v_bestMany v_row v_column v_below v_way1 v_bestWay) (cu5 (fun (wv_isFound : Bool) (wv_bestWrong : Int32) (wv_bestWorn : Int32) (wv_bestMany : Int32) (wv_bestWay : List Int32) => 0 ≤ wv_bestMany.toInt ∧ wv_bestMany.toInt ≤ 3 ∧ wv_bestWay.length = 3)) := by
  intro n
  induction n with
  | zero =>
    intro x1 x6 v_rowsOf v_columnsOf v_wishedField v_isFound v_bestWrong v_bestWorn v_bestMany v_row v_column v_below v_way1 v_bestWay h_0 h_1 h_2 h_3 h_4 h_5 h_6 h_7 h_8 h_9 h_10 h_11 h_12 h_13 h_14 hm
    exact absurd hm (by omega)
  | succ n ih =>
    intro x1 x6 v_rowsOf v_columnsOf v_wishedField v_isFound v_bestWrong v_bestWorn v_bestMany v_row v_column v_below v_way1 v_bestWay h_0 h_1 h_2 h_3 h_4 h_5 h_6 h_7 h_8 h_9 h_10 h_11 h_12 h_13 h_14 hm
    refine wp_of (uf_X9_ends1_157 _ _ _ _ _ _ _ _ _ _ _ _ _ _ _ _) ?_
    refine wp_if (fun c_1 => ?_) (fun c_1 => ?_)
    ·
      have dc_1 := i_le c_1
      exact wp_so5 ⟨h_4, h_5, h_10⟩
    ·
      have dc_1 := i_nle c_1
      refine wp_ck (i_inb (by omega) (by omega)) ?_
      refine wp_nm (fun y_13 h_y_13 => ?_)
      have t_y_13 : y_13.toInt = ((mm_ig v_way1 x6)).toInt := by rw [h_y_13]
      refine wp_ck (i_inb (by omega) (by omega)) ?_
      refine wp_nm (fun l_15 h_l_15 => ?_)
      have nl_l_15 : l_15.length = 3 := by rw [h_l_15, is_len]; assumption
      have n_2 : (1 : Int32).toInt = 1 := by decide
      refine wp_nm (fun y_16 h_y_16 => ?_)
      have e_3 := i_addE h_y_16.symm (by omega) (by omega)
      exact ih _ _ _ _ _ _ _ _ _ _ _ _ _ _ h_0 h_1 h_2 h_3 h_4 h_5 h_6 h_7 h_8 h_9 nl_l_15 h_11 h_12 (by omega) (by omega) (by omega)

theorem uf_X9_ends1 (N : Nat) (x1 : Int32) (x2 : Int32) (x3 : Int32) (v_rowsOf : Int32) (v_columnsOf : Int32) (v_wishedField : Int32) (v_isFound : Bool) (v_bestWrong : Int32) (v_bestWorn : Int32) (v_bestMany : Int32) (v_row : List Int32) (v_column : List Int32) (v_below : List Int32) (v_way1 : List Int32) (v_bestWay : List Int32) : fX9_ends1 N x1 x2 x3 v_rowsOf v_columnsOf v_wishedField v_isFound v_bestWrong v_bestWorn v_bestMany v_row v_column v_below v_way1 v_bestWay = mm_nm ((x1 + (1 : Int32))) (fun (y_1 : Int32) =>
    if v_wishedField < 0 then
    (fX9_ends1_28 N x1 x2 x3 v_rowsOf v_columnsOf v_wishedField v_isFound v_bestWrong v_bestWorn v_bestMany v_row v_column v_below v_way1 v_bestWay)
    else (mm_bd1 (fX9_topOf N y_1 (0 : Int32) (0 : Int32) v_rowsOf v_columnsOf v_row v_column v_below) (fun (r_3 : Int32) =>
    if r_3 = v_wishedField then
    (fX9_ends1_28 N x1 x2 x3 v_rowsOf v_columnsOf v_wishedField v_isFound v_bestWrong v_bestWorn v_bestMany v_row v_column v_below v_way1 v_bestWay)
    else (some (v_isFound, v_bestWrong, v_bestWorn, v_bestMany, v_bestWay))))) := rfl

theorem uf_X9_ends1_121 (N : Nat) (x1 : Int32) (x2 : Int32) (x3 : Int32) (v_rowsOf : Int32) (v_columnsOf : Int32) (v_wishedField : Int32) (v_isFound : Bool) (v_bestWrong : Int32) (v_bestWorn : Int32) (v_bestMany : Int32) (v_row : List Int32) (v_column : List Int32) (v_below : List Int32) (v_way1 : List Int32) (v_bestWay : List Int32) : fX9_ends1_121 N x1 x2 x3 v_rowsOf v_columnsOf v_wishedField v_isFound v_bestWrong v_bestWorn v_bestMany v_row v_column v_below v_way1 v_bestWay = fX9_ends1_126 N x1 x2 x3 (1 : Int32) v_rowsOf v_columnsOf v_wishedField v_isFound v_bestWrong v_bestWorn v_bestMany v_row v_column v_below v_way1 v_bestWay := rfl

theorem uf_X9_ends1_125 (N : Nat) (x1 : Int32) (x2 : Int32) (x3 : Int32) (v_rowsOf : Int32) (v_columnsOf : Int32) (v_wishedField : Int32) (v_isFound : Bool) (v_bestWrong : Int32) (v_bestWorn : Int32) (v_bestMany : Int32) (v_row : List Int32) (v_column : List Int32) (v_below : List Int32) (v_way1 : List Int32) (v_bestWay : List Int32) : fX9_ends1_125 N x1 x2 x3 v_rowsOf v_columnsOf v_wishedField v_isFound v_bestWrong v_bestWorn v_bestMany v_row v_column v_below v_way1 v_bestWay = fX9_ends1_126 N x1 x2 x3 (0 : Int32) v_rowsOf v_columnsOf v_wishedField v_isFound v_bestWrong v_bestWorn v_bestMany v_row v_column v_below v_way1 v_bestWay := rfl

theorem uf_X9_ends1_126 (N : Nat) (x1 : Int32) (x2 : Int32) (x3 : Int32) (s0 : Int32) (v_rowsOf : Int32) (v_columnsOf : Int32) (v_wishedField : Int32) (v_isFound : Bool) (v_bestWrong : Int32) (v_bestWorn : Int32) (v_bestMany : Int32) (v_row : List Int32) (v_column : List Int32) (v_below : List Int32) (v_way1 : List Int32) (v_bestWay : List Int32) : fX9_ends1_126 N x1 x2 x3 s0 v_rowsOf v_columnsOf v_wishedField v_isFound v_bestWrong v_bestWorn v_bestMany v_row v_column v_below v_way1 v_bestWay = fX9_ends1_128 N x1 x2 x3 s0 v_rowsOf v_columnsOf v_wishedField v_isFound v_bestWrong v_bestWorn v_bestMany v_row v_column v_below v_way1 v_bestWay := rfl

theorem uf_X9_ends1_128 (N : Nat) (x1 : Int32) (x2 : Int32) (x3 : Int32) (x5 : Int32) (v_rowsOf : Int32) (v_columnsOf : Int32) (v_wishedField : Int32) (v_isFound : Bool) (v_bestWrong : Int32) (v_bestWorn : Int32) (v_bestMany : Int32) (v_row : List Int32) (v_column : List Int32) (v_below : List Int32) (v_way1 : List Int32) (v_bestWay : List Int32) : fX9_ends1_128 N x1 x2 x3 x5 v_rowsOf v_columnsOf v_wishedField v_isFound v_bestWrong v_bestWorn v_bestMany v_row v_column v_below v_way1 v_bestWay = if x5 = 0 then
    (some (v_isFound, v_bestWrong, v_bestWorn, v_bestMany, v_bestWay))
    else (fX9_ends1_157 N N x1 (0 : Int32) v_rowsOf v_columnsOf v_wishedField true x2 x3 x1 v_row v_column v_below v_way1 v_bestWay) := rfl

theorem uf_X9_ends1_28 (N : Nat) (x1 : Int32) (x2 : Int32) (x3 : Int32) (v_rowsOf : Int32) (v_columnsOf : Int32) (v_wishedField : Int32) (v_isFound : Bool) (v_bestWrong : Int32) (v_bestWorn : Int32) (v_bestMany : Int32) (v_row : List Int32) (v_column : List Int32) (v_below : List Int32) (v_way1 : List Int32) (v_bestWay : List Int32) : fX9_ends1_28 N x1 x2 x3 v_rowsOf v_columnsOf v_wishedField v_isFound v_bestWrong v_bestWorn v_bestMany v_row v_column v_below v_way1 v_bestWay = if v_isFound = false then
    (fX9_ends1_40 N x1 x2 x3 (1 : Int32) v_rowsOf v_columnsOf v_wishedField v_isFound v_bestWrong v_bestWorn v_bestMany v_row v_column v_below v_way1 v_bestWay)
    else (fX9_ends1_40 N x1 x2 x3 (0 : Int32) v_rowsOf v_columnsOf v_wishedField v_isFound v_bestWrong v_bestWorn v_bestMany v_row v_column v_below v_way1 v_bestWay) := rfl

theorem uf_X9_ends1_40 (N : Nat) (x1 : Int32) (x2 : Int32) (x3 : Int32) (s0 : Int32) (v_rowsOf : Int32) (v_columnsOf : Int32) (v_wishedField : Int32) (v_isFound : Bool) (v_bestWrong : Int32) (v_bestWorn : Int32) (v_bestMany : Int32) (v_row : List Int32) (v_column : List Int32) (v_below : List Int32) (v_way1 : List Int32) (v_bestWay : List Int32) : fX9_ends1_40 N x1 x2 x3 s0 v_rowsOf v_columnsOf v_wishedField v_isFound v_bestWrong v_bestWorn v_bestMany v_row v_column v_below v_way1 v_bestWay = if v_isFound = false then
    (fX9_ends1_74 N x1 x2 x3 s0 v_rowsOf v_columnsOf v_wishedField v_isFound v_bestWrong v_bestWorn v_bestMany v_row v_column v_below v_way1 v_bestWay)
    else (if v_wishedField < 0 then
    (fX9_ends1_74 N x1 x2 x3 s0 v_rowsOf v_columnsOf v_wishedField v_isFound v_bestWrong v_bestWorn v_bestMany v_row v_column v_below v_way1 v_bestWay)
    else (if v_bestMany ≤ x1 then
    (fX9_ends1_69 N x1 x2 x3 (0 : Int32) v_rowsOf v_columnsOf v_wishedField v_isFound v_bestWrong v_bestWorn v_bestMany v_row v_column v_below v_way1 v_bestWay)
    else (fX9_ends1_69 N x1 x2 x3 (1 : Int32) v_rowsOf v_columnsOf v_wishedField v_isFound v_bestWrong v_bestWorn v_bestMany v_row v_column v_below v_way1 v_bestWay))) := rfl

theorem uf_X9_ends1_69 (N : Nat) (x1 : Int32) (x2 : Int32) (x3 : Int32) (s0 : Int32) (v_rowsOf : Int32) (v_columnsOf : Int32) (v_wishedField : Int32) (v_isFound : Bool) (v_bestWrong : Int32) (v_bestWorn : Int32) (v_bestMany : Int32) (v_row : List Int32) (v_column : List Int32) (v_below : List Int32) (v_way1 : List Int32) (v_bestWay : List Int32) : fX9_ends1_69 N x1 x2 x3 s0 v_rowsOf v_columnsOf v_wishedField v_isFound v_bestWrong v_bestWorn v_bestMany v_row v_column v_below v_way1 v_bestWay = fX9_ends1_128 N x1 x2 x3 s0 v_rowsOf v_columnsOf v_wishedField v_isFound v_bestWrong v_bestWorn v_bestMany v_row v_column v_below v_way1 v_bestWay := rfl

theorem uf_X9_ends1_74 (N : Nat) (x1 : Int32) (x2 : Int32) (x3 : Int32) (x5 : Int32) (v_rowsOf : Int32) (v_columnsOf : Int32) (v_wishedField : Int32) (v_isFound : Bool) (v_bestWrong : Int32) (v_bestWorn : Int32) (v_bestMany : Int32) (v_row : List Int32) (v_column : List Int32) (v_below : List Int32) (v_way1 : List Int32) (v_bestWay : List Int32) : fX9_ends1_74 N x1 x2 x3 x5 v_rowsOf v_columnsOf v_wishedField v_isFound v_bestWrong v_bestWorn v_bestMany v_row v_column v_below v_way1 v_bestWay = if v_isFound = false then
    (fX9_ends1_128 N x1 x2 x3 x5 v_rowsOf v_columnsOf v_wishedField v_isFound v_bestWrong v_bestWorn v_bestMany v_row v_column v_below v_way1 v_bestWay)
    else (if x2 < v_bestWrong then
    (fX9_ends1_121 N x1 x2 x3 v_rowsOf v_columnsOf v_wishedField v_isFound v_bestWrong v_bestWorn v_bestMany v_row v_column v_below v_way1 v_bestWay)
    else (if x2 = v_bestWrong then
    (if x3 < v_bestWorn then
    (fX9_ends1_121 N x1 x2 x3 v_rowsOf v_columnsOf v_wishedField v_isFound v_bestWrong v_bestWorn v_bestMany v_row v_column v_below v_way1 v_bestWay)
    else (if x3 = v_bestWorn then
    (if v_bestMany ≤ x1 then
    (fX9_ends1_125 N x1 x2 x3 v_rowsOf v_columnsOf v_wishedField v_isFound v_bestWrong v_bestWorn v_bestMany v_row v_column v_below v_way1 v_bestWay)
    else (fX9_ends1_121 N x1 x2 x3 v_rowsOf v_columnsOf v_wishedField v_isFound v_bestWrong v_bestWorn v_bestMany v_row v_column v_below v_way1 v_bestWay))
    else (fX9_ends1_125 N x1 x2 x3 v_rowsOf v_columnsOf v_wishedField v_isFound v_bestWrong v_bestWorn v_bestMany v_row v_column v_below v_way1 v_bestWay)))
    else (fX9_ends1_125 N x1 x2 x3 v_rowsOf v_columnsOf v_wishedField v_isFound v_bestWrong v_bestWorn v_bestMany v_row v_column v_below v_way1 v_bestWay))) := rfl

set_option maxHeartbeats 4000000 in
set_option maxRecDepth 20000 in
theorem sf_X9_ends1 {N : Nat} (hN : 700 ≤ N) {x1 : Int32} {x2 : Int32} {x3 : Int32} {v_rowsOf : Int32} {v_columnsOf : Int32} {v_wishedField : Int32} {v_isFound : Bool} {v_bestWrong : Int32} {v_bestWorn : Int32} {v_bestMany : Int32} {v_row : List Int32} {v_column : List Int32} {v_below : List Int32} {v_way1 : List Int32} {v_bestWay : List Int32} (h_0 : 1 ≤ v_rowsOf.toInt) (h_1 : v_rowsOf.toInt ≤ 4) (h_2 : 1 ≤ v_columnsOf.toInt) (h_3 : v_columnsOf.toInt ≤ 8) (h_4 : 0 ≤ v_bestMany.toInt) (h_5 : v_bestMany.toInt ≤ 3) (h_6 : v_row.length = 192) (h_7 : v_column.length = 192) (h_8 : v_below.length = 192) (h_9 : v_way1.length = 3) (h_10 : v_bestWay.length = 3) (h_11 : 0 ≤ x1.toInt) (h_12 : x1.toInt ≤ 3) : wp (fX9_ends1 N x1 x2 x3 v_rowsOf v_columnsOf v_wishedField v_isFound v_bestWrong v_bestWorn v_bestMany v_row v_column v_below v_way1 v_bestWay) (cu5 (fun (wv_isFound : Bool) (wv_bestWrong : Int32) (wv_bestWorn : Int32) (wv_bestMany : Int32) (wv_bestWay : List Int32) => 0 ≤ wv_bestMany.toInt ∧ wv_bestMany.toInt ≤ 3 ∧ wv_bestWay.length = 3)) := by
  refine wp_of (uf_X9_ends1 _ _ _ _ _ _ _ _ _ _ _ _ _ _ _ _) ?_
  have n_1 : (1 : Int32).toInt = 1 := by decide
  refine wp_nm (fun y_1 h_y_1 => ?_)
  have e_2 := i_addE h_y_1.symm (by omega) (by omega)
  have n_4 : (0 : Int32).toInt = 0 := by decide
  refine wp_if (fun c_3 => ?_) (fun c_3 => ?_)
  ·
    have dc_3 := i_lt c_3
    refine wp_of (uf_X9_ends1_28 _ _ _ _ _ _ _ _ _ _ _ _ _ _ _ _) ?_
    refine wp_if (fun c_5 => ?_) (fun c_5 => ?_)
    ·
      refine wp_of (uf_X9_ends1_40 _ _ _ _ _ _ _ _ _ _ _ _ _ _ _ _ _) ?_
      refine wp_ifp c_5 ?_
      refine wp_of (uf_X9_ends1_74 _ _ _ _ _ _ _ _ _ _ _ _ _ _ _ _ _) ?_
      refine wp_ifp c_5 ?_
      refine wp_of (uf_X9_ends1_128 _ _ _ _ _ _ _ _ _ _ _ _ _ _ _ _ _) ?_
      refine wp_ifn (by decide) ?_
      exact sf_X9_ends1_157 hN _ _ _ _ _ _ _ _ _ _ _ _ _ _ _ h_0 h_1 h_2 h_3 h_11 h_12 h_6 h_7 h_8 h_9 h_10 h_11 h_12 (by omega) (by omega) (by omega)
    ·
      refine wp_of (uf_X9_ends1_40 _ _ _ _ _ _ _ _ _ _ _ _ _ _ _ _ _) ?_
      refine wp_ifn c_5 ?_
      refine wp_ifp c_3 ?_
      refine wp_of (uf_X9_ends1_74 _ _ _ _ _ _ _ _ _ _ _ _ _ _ _ _ _) ?_
      refine wp_ifn c_5 ?_
      refine wp_if (fun c_7 => ?_) (fun c_7 => ?_)
      ·
        have dc_7 := i_lt c_7
        refine wp_of (uf_X9_ends1_121 _ _ _ _ _ _ _ _ _ _ _ _ _ _ _ _) ?_
        refine wp_of (uf_X9_ends1_126 _ _ _ _ _ _ _ _ _ _ _ _ _ _ _ _ _) ?_
        refine wp_of (uf_X9_ends1_128 _ _ _ _ _ _ _ _ _ _ _ _ _ _ _ _ _) ?_
        refine wp_ifn (by decide) ?_
        exact sf_X9_ends1_157 hN _ _ _ _ _ _ _ _ _ _ _ _ _ _ _ h_0 h_1 h_2 h_3 h_11 h_12 h_6 h_7 h_8 h_9 h_10 h_11 h_12 (by omega) (by omega) (by omega)
      ·
        have dc_7 := i_nlt c_7
        refine wp_if (fun c_8 => ?_) (fun c_8 => ?_)
        ·
          have dc_8 := i_eq c_8
          refine wp_if (fun c_9 => ?_) (fun c_9 => ?_)
          ·
            have dc_9 := i_lt c_9
            refine wp_of (uf_X9_ends1_121 _ _ _ _ _ _ _ _ _ _ _ _ _ _ _ _) ?_
            refine wp_of (uf_X9_ends1_126 _ _ _ _ _ _ _ _ _ _ _ _ _ _ _ _ _) ?_
            refine wp_of (uf_X9_ends1_128 _ _ _ _ _ _ _ _ _ _ _ _ _ _ _ _ _) ?_
            refine wp_ifn (by decide) ?_
            exact sf_X9_ends1_157 hN _ _ _ _ _ _ _ _ _ _ _ _ _ _ _ h_0 h_1 h_2 h_3 h_11 h_12 h_6 h_7 h_8 h_9 h_10 h_11 h_12 (by omega) (by omega) (by omega)
          ·
            have dc_9 := i_nlt c_9
            refine wp_if (fun c_10 => ?_) (fun c_10 => ?_)
            ·
              have dc_10 := i_eq c_10
              refine wp_if (fun c_11 => ?_) (fun c_11 => ?_)
              ·
                have dc_11 := i_le c_11
                refine wp_of (uf_X9_ends1_125 _ _ _ _ _ _ _ _ _ _ _ _ _ _ _ _) ?_
                refine wp_of (uf_X9_ends1_126 _ _ _ _ _ _ _ _ _ _ _ _ _ _ _ _ _) ?_
                refine wp_of (uf_X9_ends1_128 _ _ _ _ _ _ _ _ _ _ _ _ _ _ _ _ _) ?_
                refine wp_ifp (by decide) ?_
                exact wp_so5 ⟨h_4, h_5, h_10⟩
              ·
                have dc_11 := i_nle c_11
                refine wp_of (uf_X9_ends1_121 _ _ _ _ _ _ _ _ _ _ _ _ _ _ _ _) ?_
                refine wp_of (uf_X9_ends1_126 _ _ _ _ _ _ _ _ _ _ _ _ _ _ _ _ _) ?_
                refine wp_of (uf_X9_ends1_128 _ _ _ _ _ _ _ _ _ _ _ _ _ _ _ _ _) ?_
                refine wp_ifn (by decide) ?_
                exact sf_X9_ends1_157 hN _ _ _ _ _ _ _ _ _ _ _ _ _ _ _ h_0 h_1 h_2 h_3 h_11 h_12 h_6 h_7 h_8 h_9 h_10 h_11 h_12 (by omega) (by omega) (by omega)
            ·
              have dc_10 := i_ne c_10
              refine wp_of (uf_X9_ends1_125 _ _ _ _ _ _ _ _ _ _ _ _ _ _ _ _) ?_
              refine wp_of (uf_X9_ends1_126 _ _ _ _ _ _ _ _ _ _ _ _ _ _ _ _ _) ?_
              refine wp_of (uf_X9_ends1_128 _ _ _ _ _ _ _ _ _ _ _ _ _ _ _ _ _) ?_
              refine wp_ifp (by decide) ?_
              exact wp_so5 ⟨h_4, h_5, h_10⟩
        ·
          have dc_8 := i_ne c_8
          refine wp_of (uf_X9_ends1_125 _ _ _ _ _ _ _ _ _ _ _ _ _ _ _ _) ?_
          refine wp_of (uf_X9_ends1_126 _ _ _ _ _ _ _ _ _ _ _ _ _ _ _ _ _) ?_
          refine wp_of (uf_X9_ends1_128 _ _ _ _ _ _ _ _ _ _ _ _ _ _ _ _ _) ?_
          refine wp_ifp (by decide) ?_
          exact wp_so5 ⟨h_4, h_5, h_10⟩
  ·
    have dc_3 := i_nlt c_3
    refine wp_bd1 (sf_X9_topOf hN h_0 h_1 h_2 h_3 h_6 h_7 h_8 (by omega) (by omega)) (fun r_3 _ => ?_)
    refine wp_if (fun c_12 => ?_) (fun c_12 => ?_)
    ·
      have dc_12 := i_eq c_12
      refine wp_of (uf_X9_ends1_28 _ _ _ _ _ _ _ _ _ _ _ _ _ _ _ _) ?_
      refine wp_if (fun c_13 => ?_) (fun c_13 => ?_)
      ·
        refine wp_of (uf_X9_ends1_40 _ _ _ _ _ _ _ _ _ _ _ _ _ _ _ _ _) ?_
        refine wp_ifp c_13 ?_
        refine wp_of (uf_X9_ends1_74 _ _ _ _ _ _ _ _ _ _ _ _ _ _ _ _ _) ?_
        refine wp_ifp c_13 ?_
        refine wp_of (uf_X9_ends1_128 _ _ _ _ _ _ _ _ _ _ _ _ _ _ _ _ _) ?_
        refine wp_ifn (by decide) ?_
        exact sf_X9_ends1_157 hN _ _ _ _ _ _ _ _ _ _ _ _ _ _ _ h_0 h_1 h_2 h_3 h_11 h_12 h_6 h_7 h_8 h_9 h_10 h_11 h_12 (by omega) (by omega) (by omega)
      ·
        refine wp_of (uf_X9_ends1_40 _ _ _ _ _ _ _ _ _ _ _ _ _ _ _ _ _) ?_
        refine wp_ifn c_13 ?_
        refine wp_ifn c_3 ?_
        refine wp_if (fun c_15 => ?_) (fun c_15 => ?_)
        ·
          have dc_15 := i_le c_15
          refine wp_of (uf_X9_ends1_69 _ _ _ _ _ _ _ _ _ _ _ _ _ _ _ _ _) ?_
          refine wp_of (uf_X9_ends1_128 _ _ _ _ _ _ _ _ _ _ _ _ _ _ _ _ _) ?_
          refine wp_ifp (by decide) ?_
          exact wp_so5 ⟨h_4, h_5, h_10⟩
        ·
          have dc_15 := i_nle c_15
          refine wp_of (uf_X9_ends1_69 _ _ _ _ _ _ _ _ _ _ _ _ _ _ _ _ _) ?_
          refine wp_of (uf_X9_ends1_128 _ _ _ _ _ _ _ _ _ _ _ _ _ _ _ _ _) ?_
          refine wp_ifn (by decide) ?_
          exact sf_X9_ends1_157 hN _ _ _ _ _ _ _ _ _ _ _ _ _ _ _ h_0 h_1 h_2 h_3 h_11 h_12 h_6 h_7 h_8 h_9 h_10 h_11 h_12 (by omega) (by omega) (by omega)
    ·
      have dc_12 := i_ne c_12
      exact wp_so5 ⟨h_4, h_5, h_10⟩
