/-! safe -/
theorem uf_X9_movesAll_411 (N : Nat) (n : Nat) (x1 : Int32) (x2 : Int32) (x4 : Int32) (x7 : Int32) (x9 : Int32) (v_rowsOf : Int32) (v_columnsOf : Int32) (v_shapeRows : List Int32) (v_shapeColumns : List Int32) (v_row : List Int32) (v_column : List Int32) (v_below : List Int32) (v_face : List Int32) (v_high : List Int32) (v_to : List Int32) (v_pileSize : List Int32) : fX9_movesAll_411 N (n + 1) x1 x2 x4 x7 x9 v_rowsOf v_columnsOf v_shapeRows v_shapeColumns v_row v_column v_below v_face v_high v_to v_pileSize = 
    mm_bd1 (fX9_fields N v_rowsOf v_columnsOf) (fun (r_72 : Int32) =>
    if r_72 ≤ x9 then
    (if x2 ≤ (x7 - x2) then
    (fX9_movesAll_507 N x1 x4 (x7 - x2) v_rowsOf v_columnsOf v_shapeRows v_shapeColumns v_row v_column v_below v_face v_high v_to v_pileSize)
    else (fX9_movesAll_507 N x1 x4 x2 v_rowsOf v_columnsOf v_shapeRows v_shapeColumns v_row v_column v_below v_face v_high v_to v_pileSize))
    else (mm_ck (mm_inb x9 v_high.length) (mm_nm ((mm_ig v_high x9)) (fun (y_77 : Int32) =>
    mm_ck (mm_inb (((32 : Int32) * x1) + x9) v_below.length) (mm_nm (mm_is v_below (((32 : Int32) * x1) + x9) y_77) (fun (l_79 : List Int32) =>
    if x4 = 0 then
    (mm_ck (mm_inb x9 v_to.length) (mm_nm ((mm_ig v_to x9)) (fun (y_82 : Int32) =>
    mm_ck (mm_inb (((32 : Int32) * x1) + x9) v_row.length) (mm_nm (mm_is v_row (((32 : Int32) * x1) + x9) y_82) (fun (l_84 : List Int32) =>
    fX9_movesAll_485 N (fX9_movesAll_411 N n) x1 x2 x4 x7 x9 v_rowsOf v_columnsOf v_shapeRows v_shapeColumns l_84 v_column l_79 v_face v_high v_to v_pileSize)))))
    else (mm_ck (mm_inb x9 v_to.length) (mm_nm ((mm_ig v_to x9)) (fun (y_86 : Int32) =>
    mm_ck (mm_inb (((32 : Int32) * x1) + x9) v_column.length) (mm_nm (mm_is v_column (((32 : Int32) * x1) + x9) y_86) (fun (l_88 : List Int32) =>
    fX9_movesAll_485 N (fX9_movesAll_411 N n) x1 x2 x4 x7 x9 v_rowsOf v_columnsOf v_shapeRows v_shapeColumns v_row l_88 l_79 v_face v_high v_to v_pileSize))))))))))) := rfl

theorem uf_X9_movesAll_485 (N : Nat) (k_411 : Int32 → Int32 → Int32 → Int32 → Int32 → Int32 → Int32 → List Int32 → List Int32 → List Int32 → List Int32 → List Int32 → List Int32 → List Int32 → List Int32 → List Int32 → Option (List Int32 × List Int32 × List Int32 × List Int32 × List Int32 × List Int32 × List Int32 × List Int32 × List Int32)) (x1 : Int32) (x2 : Int32) (x4 : Int32) (x7 : Int32) (x9 : Int32) (v_rowsOf : Int32) (v_columnsOf : Int32) (v_shapeRows : List Int32) (v_shapeColumns : List Int32) (v_row : List Int32) (v_column : List Int32) (v_below : List Int32) (v_face : List Int32) (v_high : List Int32) (v_to : List Int32) (v_pileSize : List Int32) : fX9_movesAll_485 N k_411 x1 x2 x4 x7 x9 v_rowsOf v_columnsOf v_shapeRows v_shapeColumns v_row v_column v_below v_face v_high v_to v_pileSize = mm_nm (x9 + (1 : Int32)) (fun (y_89 : Int32) =>
    k_411 x1 x2 x4 x7 y_89 v_rowsOf v_columnsOf v_shapeRows v_shapeColumns v_row v_column v_below v_face v_high v_to v_pileSize) := rfl

theorem uf_X9_movesAll_507 (N : Nat) (x1 : Int32) (x4 : Int32) (s0 : Int32) (v_rowsOf : Int32) (v_columnsOf : Int32) (v_shapeRows : List Int32) (v_shapeColumns : List Int32) (v_row : List Int32) (v_column : List Int32) (v_below : List Int32) (v_face : List Int32) (v_high : List Int32) (v_to : List Int32) (v_pileSize : List Int32) : fX9_movesAll_507 N x1 x4 s0 v_rowsOf v_columnsOf v_shapeRows v_shapeColumns v_row v_column v_below v_face v_high v_to v_pileSize = if x4 = 0 then
    (mm_ck (mm_inb x1 v_shapeRows.length) (mm_nm (mm_is v_shapeRows x1 s0) (fun (l_92 : List Int32) =>
    some (l_92, v_shapeColumns, v_row, v_column, v_below, v_face, v_high, v_to, v_pileSize))))
    else (mm_ck (mm_inb x1 v_shapeColumns.length) (mm_nm (mm_is v_shapeColumns x1 s0) (fun (l_94 : List Int32) =>
    some (v_shapeRows, l_94, v_row, v_column, v_below, v_face, v_high, v_to, v_pileSize)))) := rfl

set_option maxHeartbeats 4000000 in
set_option maxRecDepth 20000 in
theorem sf_X9_movesAll_411_r {N : Nat} (hN : 700 ≤ N) {u_row : List Int32} {u_col : List Int32} {u_sR : List Int32} {u_sC : List Int32} {A : Int} {B9 : Int} {a9 : Int} {b9 : Int} : ∀ (n : Nat) (x1 : Int32) (x2 : Int32) (x4 : Int32) (x7 : Int32) (x9 : Int32) (v_rowsOf : Int32) (v_columnsOf : Int32) (v_shapeRows : List Int32) (v_shapeColumns : List Int32) (v_row : List Int32) (v_column : List Int32) (v_below : List Int32) (v_face : List Int32) (v_high : List Int32) (v_to : List Int32) (v_pileSize : List Int32), 1 ≤ v_rowsOf.toInt → v_rowsOf.toInt ≤ 4 → 1 ≤ v_columnsOf.toInt → v_columnsOf.toInt ≤ 8 → v_shapeRows.length = 6 → v_shapeColumns.length = 6 → v_row.length = 192 → v_column.length = 192 → v_below.length = 192 → v_face.length = 192 → v_high.length = 32 → v_to.length = 32 → v_pileSize.length = 64 → 0 ≤ x1.toInt → x1.toInt ≤ 5 → (x4 = (0 : Int32)) → 1 ≤ x2.toInt → x2.toInt < x7.toInt → x7.toInt = (mm_ig v_shapeRows x1).toInt → fr u_row v_row A B9 → fr u_col v_column A B9 → fr u_sR v_shapeRows a9 b9 → fr u_sC v_shapeColumns a9 b9 → A ≤ 32 * x1.toInt → 32 * x1.toInt + 32 ≤ B9 → a9 ≤ x1.toInt → x1.toInt < b9 → 1 ≤ (mm_ig v_shapeRows x1).toInt → (mm_ig v_shapeRows x1).toInt ≤ 4 → 1 ≤ (mm_ig v_shapeColumns x1).toInt → (mm_ig v_shapeColumns x1).toInt ≤ 8 → zn v_column (32 * x1.toInt) (32 * x1.toInt + v_rowsOf.toInt * v_columnsOf.toInt) 0 (mm_ig v_shapeColumns x1).toInt → zn v_to 0 (v_rowsOf.toInt * v_columnsOf.toInt) 0 (max x2.toInt (x7.toInt - x2.toInt)) → zn v_row (32 * x1.toInt) (32 * x1.toInt + x9.toInt) 0 (max x2.toInt (x7.toInt - x2.toInt)) → 0 ≤ x9.toInt → x9.toInt ≤ v_rowsOf.toInt * v_columnsOf.toInt → (v_rowsOf.toInt * v_columnsOf.toInt - x9.toInt).toNat < n → wp (fX9_movesAll_411 N n x1 x2 x4 x7 x9 v_rowsOf v_columnsOf v_shapeRows v_shapeColumns v_row v_column v_below v_face v_high v_to v_pileSize) (cu9 (fun (wv_shapeRows : List Int32) (wv_shapeColumns : List Int32) (wv_row : List Int32) (wv_column : List Int32) (wv_below : List Int32) (wv_face : List Int32) (wv_high : List Int32) (wv_to : List Int32) (wv_pileSize : List Int32) => wv_shapeRows.length = 6 ∧ wv_shapeColumns.length = 6 ∧ wv_row.length = 192 ∧ wv_column.length = 192 ∧ wv_below.length = 192 ∧ wv_face.length = 192 ∧ wv_high.length = 32 ∧ wv_to.length = 32 ∧ wv_pileSize.length = 64 ∧ fr u_row wv_row A B9 ∧ fr u_col wv_column A B9 ∧ fr u_sR wv_shapeRows a9 b9 ∧ fr u_sC wv_shapeColumns a9 b9 ∧ lv9 v_rowsOf v_columnsOf wv_shapeRows wv_shapeColumns wv_row wv_column x1)) := by
  intro n
  induction n with
  | zero =>
    intro x1 x2 x4 x7 x9 v_rowsOf v_columnsOf v_shapeRows v_shapeColumns v_row v_column v_below v_face v_high v_to v_pileSize h_0 h_1 h_2 h_3 h_4 h_5 h_6 h_7 h_8 h_9 h_10 h_11 h_12 h_13 h_14 h_15 h_16 h_17 h_18 h_19 h_20 h_21 h_22 h_23 h_24 h_25 h_26 h_27 h_28 h_29 h_30 h_31 h_32 h_33 h_34 h_35 hm
    exact absurd hm (by omega)
  | succ n ih =>
    intro x1 x2 x4 x7 x9 v_rowsOf v_columnsOf v_shapeRows v_shapeColumns v_row v_column v_below v_face v_high v_to v_pileSize h_0 h_1 h_2 h_3 h_4 h_5 h_6 h_7 h_8 h_9 h_10 h_11 h_12 h_13 h_14 h_15 h_16 h_17 h_18 h_19 h_20 h_21 h_22 h_23 h_24 h_25 h_26 h_27 h_28 h_29 h_30 h_31 h_32 h_33 h_34 h_35 hm
    have m3 := (i_fl (a := v_rowsOf) (b := v_columnsOf) (by omega) (by omega) (by omega) (by omega)).2
    refine wp_of (uf_X9_movesAll_411 _ _ _ _ _ _ _ _ _ _ _ _ _ _ _ _ _ _) ?_
    refine wp_bd1 (sf_X9_fields hN h_0 h_1 h_2 h_3) (fun r_72 ⟨q_1, q_2, q_3⟩ => ?_)
    refine wp_if (fun c_4 => ?_) (fun c_4 => ?_)
    ·
      have dc_4 := i_le c_4
      generalize hz_z : (x7 - x2) = z
      have e_6 := i_subE hz_z (by omega) (by omega)
      refine wp_if (fun c_5 => ?_) (fun c_5 => ?_)
      ·
        have dc_5 := i_le c_5
        refine wp_of (uf_X9_movesAll_507 _ _ _ _ _ _ _ _ _ _ _ _ _ _ _) ?_
        have n_8 : (0 : Int32).toInt = 0 := by decide
        refine wp_ifp h_15 ?_
        refine wp_ck (i_inb (by omega) (by omega)) ?_
        refine wp_nm (fun l_92 h_l_92 => ?_)
        have nl_l_92 : l_92.length = 6 := by rw [h_l_92, is_len]; assumption
        have w_l_92 : (mm_ig l_92 x1).toInt = (z).toInt := by rw [h_l_92, ig_is _ _ _ _ (by omega) (by omega) (by omega), if_pos rfl]
        exact wp_so9 ⟨nl_l_92, h_5, h_6, h_7, h_8, h_9, h_10, h_11, h_12, h_19, h_20, (by first | assumption | exact fr_refl _ _ _ | (rw [h_l_92]; exact fr_set (by first | assumption | exact fr_refl _ _ _) (by omega) (by omega) (by omega))), h_22, (by first | assumption | (rw [h_l_92]; exact lv9_setR (by assumption) (by omega) (by omega) (by omega) (by omega) (by omega) (by omega) (by first | assumption | exact zn_sub h_33 (by omega) (by omega) (by omega) (by omega) | exact zn_nil (by omega) | (exfalso; omega)) (by first | assumption | exact zn_sub h_31 (by omega) (by omega) (by omega) (by omega) | exact zn_nil (by omega) | (exfalso; omega))) | exact lv9_fr (by assumption) (by assumption) (by assumption) (by assumption) (by assumption) (by omega) (by omega) (by omega) (by omega) (by omega) | exact ⟨by omega, by omega, by omega, by omega, (by first | assumption | exact zn_sub h_33 (by omega) (by omega) (by omega) (by omega) | exact zn_nil (by omega) | (exfalso; omega)), (by first | assumption | exact zn_sub h_31 (by omega) (by omega) (by omega) (by omega) | exact zn_nil (by omega) | (exfalso; omega))⟩)⟩
      ·
        have dc_5 := i_nle c_5
        refine wp_of (uf_X9_movesAll_507 _ _ _ _ _ _ _ _ _ _ _ _ _ _ _) ?_
        have n_10 : (0 : Int32).toInt = 0 := by decide
        refine wp_ifp h_15 ?_
        refine wp_ck (i_inb (by omega) (by omega)) ?_
        refine wp_nm (fun l_92__11 h_l_92__11 => ?_)
        have nl_l_92__11 : l_92__11.length = 6 := by rw [h_l_92__11, is_len]; assumption
        have w_l_92__11 : (mm_ig l_92__11 x1).toInt = (x2).toInt := by rw [h_l_92__11, ig_is _ _ _ _ (by omega) (by omega) (by omega), if_pos rfl]
        exact wp_so9 ⟨nl_l_92__11, h_5, h_6, h_7, h_8, h_9, h_10, h_11, h_12, h_19, h_20, (by first | assumption | exact fr_refl _ _ _ | (rw [h_l_92__11]; exact fr_set (by first | assumption | exact fr_refl _ _ _) (by omega) (by omega) (by omega))), h_22, (by first | assumption | (rw [h_l_92__11]; exact lv9_setR (by assumption) (by omega) (by omega) (by omega) (by omega) (by omega) (by omega) (by first | assumption | exact zn_sub h_33 (by omega) (by omega) (by omega) (by omega) | exact zn_nil (by omega) | (exfalso; omega)) (by first | assumption | exact zn_sub h_31 (by omega) (by omega) (by omega) (by omega) | exact zn_nil (by omega) | (exfalso; omega))) | exact lv9_fr (by assumption) (by assumption) (by assumption) (by assumption) (by assumption) (by omega) (by omega) (by omega) (by omega) (by omega) | exact ⟨by omega, by omega, by omega, by omega, (by first | assumption | exact zn_sub h_33 (by omega) (by omega) (by omega) (by omega) | exact zn_nil (by omega) | (exfalso; omega)), (by first | assumption | exact zn_sub h_31 (by omega) (by omega) (by omega) (by omega) | exact zn_nil (by omega) | (exfalso; omega))⟩)⟩
    ·
      have dc_4 := i_nle c_4
      refine wp_ck (i_inb (by omega) (by omega)) ?_
      refine wp_nm (fun y_77 h_y_77 => ?_)
      have t_y_77 : y_77.toInt = ((mm_ig v_high x9)).toInt := by rw [h_y_77]
      have n_12 : (32 : Int32).toInt = 32 := by decide
      generalize hz_z__13 : ((32 : Int32) * x1) = z__13
      have e_14 := i_mulLE (c := 32) (by decide) hz_z__13 (by omega) (by omega)
      generalize hz_z__15 : (z__13 + x9) = z__15
      have e_16 := i_addE hz_z__15 (by omega) (by omega)
      refine wp_ck (i_inb (by omega) (by omega)) ?_
      refine wp_nm (fun l_79 h_l_79 => ?_)
      have nl_l_79 : l_79.length = 192 := by rw [h_l_79, is_len]; assumption
      have n_18 : (0 : Int32).toInt = 0 := by decide
      refine wp_ifp h_15 ?_
      refine wp_ck (i_inb (by omega) (by omega)) ?_
      obtain ⟨e_19, e1_19⟩ := zn_get h_32 (i := x9) (by omega) (by omega) (by omega) (by omega)
      refine wp_nm (fun y_82 h_y_82 => ?_)
      have t_y_82 : y_82.toInt = ((mm_ig v_to x9)).toInt := by rw [h_y_82]
      refine wp_ck (i_inb (by omega) (by omega)) ?_
      refine wp_nm (fun l_84 h_l_84 => ?_)
      have nl_l_84 : l_84.length = 192 := by rw [h_l_84, is_len]; assumption
      refine wp_of (uf_X9_movesAll_485 _ _ _ _ _ _ _ _ _ _ _ _ _ _ _ _ _ _) ?_
      have n_21 : (1 : Int32).toInt = 1 := by decide
      refine wp_nm (fun y_89 h_y_89 => ?_)
      have e_22 := i_addE h_y_89.symm (by omega) (by omega)
      exact ih _ _ _ _ _ _ _ _ _ _ _ _ _ _ _ _ h_0 h_1 h_2 h_3 h_4 h_5 nl_l_84 h_7 nl_l_79 h_9 h_10 h_11 h_12 h_13 h_14 h_15 h_16 h_17 h_18 (by first | assumption | exact fr_refl _ _ _ | (rw [h_l_84]; exact fr_set (by first | assumption | exact fr_refl _ _ _) (by omega) (by omega) (by omega))) h_20 h_21 h_22 h_23 h_24 h_25 h_26 h_27 h_28 h_29 h_30 h_31 h_32 (by first | (rw [h_l_84]; exact zn_ext h_33 (by omega) (by omega) (by omega) (by omega) (by omega)) | assumption | exact zn_nil (by omega) | (rw [h_l_84]; first | exact zn_out h_33 (by omega) (by omega) | exact zn_in h_33 (by omega) (by omega) (by omega) | exact zn_ext h_33 (by omega) (by omega) (by omega) (by omega) (by omega) | exact zn_out (zn_sub h_33 (by omega) (by omega) (by omega) (by omega)) (by omega) (by omega)) | (exfalso; omega)) (by omega) (by omega) (by omega)

theorem uf_X9_movesAll_174 (N : Nat) (n : Nat) (x1 : Int32) (x2 : Int32) (x4 : Int32) (x5 : Int32) (x6 : Int32) (x7 : Int32) (x8 : Int32) (x9 : Int32) (v_rowsOf : Int32) (v_columnsOf : Int32) (v_shapeRows : List Int32) (v_shapeColumns : List Int32) (v_row : List Int32) (v_column : List Int32) (v_below : List Int32) (v_face : List Int32) (v_high : List Int32) (v_to : List Int32) (v_pileSize : List Int32) : fX9_movesAll_174 N (n + 1) x1 x2 x4 x5 x6 x7 x8 x9 v_rowsOf v_columnsOf v_shapeRows v_shapeColumns v_row v_column v_below v_face v_high v_to v_pileSize = 
    mm_bd1 (fX9_fields N v_rowsOf v_columnsOf) (fun (r_30 : Int32) =>
    if r_30 ≤ x9 then
    (fX9_movesAll_411 N N x1 x2 x4 x7 (0 : Int32) v_rowsOf v_columnsOf v_shapeRows v_shapeColumns v_row v_column v_below v_face v_high v_to v_pileSize)
    else (mm_nm ((((32 : Int32) * x1) + x9)) (fun (y_33 : Int32) =>
    mm_bd1 (fX9_placeOf N x1 x9 x4 v_row v_column) (fun (r_34 : Int32) =>
    if x4 = 0 then
    (fX9_movesAll_217 N (fX9_movesAll_174 N n) x1 x2 x4 x5 x6 x7 x8 x9 y_33 r_34 (1 : Int32) x9 x1 v_rowsOf v_columnsOf v_shapeRows v_shapeColumns v_row v_column v_below v_face v_high v_to v_pileSize)
    else (fX9_movesAll_217 N (fX9_movesAll_174 N n) x1 x2 x4 x5 x6 x7 x8 x9 y_33 r_34 (0 : Int32) x9 x1 v_rowsOf v_columnsOf v_shapeRows v_shapeColumns v_row v_column v_below v_face v_high v_to v_pileSize))))) := rfl

theorem uf_X9_movesAll_217 (N : Nat) (k_174 : Int32 → Int32 → Int32 → Int32 → Int32 → Int32 → Int32 → Int32 → Int32 → Int32 → List Int32 → List Int32 → List Int32 → List Int32 → List Int32 → List Int32 → List Int32 → List Int32 → List Int32 → Option (List Int32 × List Int32 × List Int32 × List Int32 × List Int32 × List Int32 × List Int32 × List Int32 × List Int32)) (x1 : Int32) (x2 : Int32) (x4 : Int32) (x5 : Int32) (x6 : Int32) (x7 : Int32) (x8 : Int32) (x9 : Int32) (x10 : Int32) (x11 : Int32) (s0 : Int32) (s1 : Int32) (s2 : Int32) (v_rowsOf : Int32) (v_columnsOf : Int32) (v_shapeRows : List Int32) (v_shapeColumns : List Int32) (v_row : List Int32) (v_column : List Int32) (v_below : List Int32) (v_face : List Int32) (v_high : List Int32) (v_to : List Int32) (v_pileSize : List Int32) : fX9_movesAll_217 N k_174 x1 x2 x4 x5 x6 x7 x8 x9 x10 x11 s0 s1 s2 v_rowsOf v_columnsOf v_shapeRows v_shapeColumns v_row v_column v_below v_face v_high v_to v_pileSize = mm_bd1 (fX9_placeOf N s2 s1 s0 v_row v_column) (fun (r_37 : Int32) =>
    mm_nm (((((2 : Int32) * x2) - (1 : Int32)) - x11)) (fun (y_39 : Int32) =>
    mm_bd1 (fX9_within N ((y_39).toInt64) (0 : Int64) ((x7 - (1 : Int32)).toInt64)) (fun (r_40 : Bool) =>
    if r_40 = false then
    (fX9_movesAll_263 N k_174 x1 x2 x4 x5 x6 x7 x8 x9 x10 x11 r_37 y_39 (0 : Int32) v_rowsOf v_columnsOf v_shapeRows v_shapeColumns v_row v_column v_below v_face v_high v_to v_pileSize)
    else (mm_bd1 (fX9_pileAt N y_39 r_37) (fun (r_43 : Int32) =>
    mm_ck (mm_inb r_43 v_pileSize.length) (fX9_movesAll_263 N k_174 x1 x2 x4 x5 x6 x7 x8 x9 x10 x11 r_37 y_39 (mm_ig v_pileSize r_43) v_rowsOf v_columnsOf v_shapeRows v_shapeColumns v_row v_column v_below v_face v_high v_to v_pileSize)))))) := rfl

theorem uf_X9_movesAll_263 (N : Nat) (k_174 : Int32 → Int32 → Int32 → Int32 → Int32 → Int32 → Int32 → Int32 → Int32 → Int32 → List Int32 → List Int32 → List Int32 → List Int32 → List Int32 → List Int32 → List Int32 → List Int32 → List Int32 → Option (List Int32 × List Int32 × List Int32 × List Int32 × List Int32 × List Int32 × List Int32 × List Int32 × List Int32)) (x1 : Int32) (x2 : Int32) (x4 : Int32) (x5 : Int32) (x6 : Int32) (x7 : Int32) (x8 : Int32) (x9 : Int32) (x10 : Int32) (x11 : Int32) (x12 : Int32) (x13 : Int32) (s0 : Int32) (v_rowsOf : Int32) (v_columnsOf : Int32) (v_shapeRows : List Int32) (v_shapeColumns : List Int32) (v_row : List Int32) (v_column : List Int32) (v_below : List Int32) (v_face : List Int32) (v_high : List Int32) (v_to : List Int32) (v_pileSize : List Int32) : fX9_movesAll_263 N k_174 x1 x2 x4 x5 x6 x7 x8 x9 x10 x11 x12 x13 s0 v_rowsOf v_columnsOf v_shapeRows v_shapeColumns v_row v_column v_below v_face v_high v_to v_pileSize = if x2 ≤ x11 then
    (fX9_movesAll_276 N k_174 x1 x2 x4 x5 x6 x7 x8 x9 x10 x11 x12 x13 s0 (0 : Int32) v_rowsOf v_columnsOf v_shapeRows v_shapeColumns v_row v_column v_below v_face v_high v_to v_pileSize)
    else (fX9_movesAll_276 N k_174 x1 x2 x4 x5 x6 x7 x8 x9 x10 x11 x12 x13 s0 (1 : Int32) v_rowsOf v_columnsOf v_shapeRows v_shapeColumns v_row v_column v_below v_face v_high v_to v_pileSize) := rfl

theorem uf_X9_movesAll_276 (N : Nat) (k_174 : Int32 → Int32 → Int32 → Int32 → Int32 → Int32 → Int32 → Int32 → Int32 → Int32 → List Int32 → List Int32 → List Int32 → List Int32 → List Int32 → List Int32 → List Int32 → List Int32 → List Int32 → Option (List Int32 × List Int32 × List Int32 × List Int32 × List Int32 × List Int32 × List Int32 × List Int32 × List Int32)) (x1 : Int32) (x2 : Int32) (x4 : Int32) (x5 : Int32) (x6 : Int32) (x7 : Int32) (x8 : Int32) (x9 : Int32) (x10 : Int32) (x11 : Int32) (x12 : Int32) (x13 : Int32) (x14 : Int32) (s0 : Int32) (v_rowsOf : Int32) (v_columnsOf : Int32) (v_shapeRows : List Int32) (v_shapeColumns : List Int32) (v_row : List Int32) (v_column : List Int32) (v_below : List Int32) (v_face : List Int32) (v_high : List Int32) (v_to : List Int32) (v_pileSize : List Int32) : fX9_movesAll_276 N k_174 x1 x2 x4 x5 x6 x7 x8 x9 x10 x11 x12 x13 x14 s0 v_rowsOf v_columnsOf v_shapeRows v_shapeColumns v_row v_column v_below v_face v_high v_to v_pileSize = if s0 = x5 then
    (mm_bd1 (fX9_pileAt N x11 x12) (fun (r_51 : Int32) =>
    mm_ck (mm_inb r_51 v_pileSize.length) (mm_ck (mm_inb x10 v_below.length) (mm_nm ((((mm_ig v_pileSize r_51) - (1 : Int32)) - (mm_ig v_below x10))) (fun (y_55 : Int32) =>
    if x6 = 0 then
    (fX9_movesAll_326 N k_174 x1 x2 x4 x5 x6 x7 x8 x9 x10 x13 y_55 x9 v_rowsOf v_columnsOf v_shapeRows v_shapeColumns v_row v_column v_below v_face v_high v_to v_pileSize)
    else (fX9_movesAll_326 N k_174 x1 x2 x4 x5 x6 x7 x8 x9 x10 x13 (y_55 + x14) x9 v_rowsOf v_columnsOf v_shapeRows v_shapeColumns v_row v_column v_below v_face v_high v_to v_pileSize))))))
    else (if x6 = 0 then
    (mm_ck (mm_inb x10 v_below.length) (fX9_movesAll_389 N k_174 x1 x2 x4 x5 x6 x7 x8 x9 x11 ((mm_ig v_below x10) + x14) x9 v_rowsOf v_columnsOf v_shapeRows v_shapeColumns v_row v_column v_below v_face v_high v_to v_pileSize))
    else (mm_ck (mm_inb x10 v_below.length) (fX9_movesAll_389 N k_174 x1 x2 x4 x5 x6 x7 x8 x9 x11 (mm_ig v_below x10) x9 v_rowsOf v_columnsOf v_shapeRows v_shapeColumns v_row v_column v_below v_face v_high v_to v_pileSize))) := rfl

theorem uf_X9_movesAll_326 (N : Nat) (k_174 : Int32 → Int32 → Int32 → Int32 → Int32 → Int32 → Int32 → Int32 → Int32 → Int32 → List Int32 → List Int32 → List Int32 → List Int32 → List Int32 → List Int32 → List Int32 → List Int32 → List Int32 → Option (List Int32 × List Int32 × List Int32 × List Int32 × List Int32 × List Int32 × List Int32 × List Int32 × List Int32)) (x1 : Int32) (x2 : Int32) (x4 : Int32) (x5 : Int32) (x6 : Int32) (x7 : Int32) (x8 : Int32) (x9 : Int32) (x10 : Int32) (x13 : Int32) (s0 : Int32) (s1 : Int32) (v_rowsOf : Int32) (v_columnsOf : Int32) (v_shapeRows : List Int32) (v_shapeColumns : List Int32) (v_row : List Int32) (v_column : List Int32) (v_below : List Int32) (v_face : List Int32) (v_high : List Int32) (v_to : List Int32) (v_pileSize : List Int32) : fX9_movesAll_326 N k_174 x1 x2 x4 x5 x6 x7 x8 x9 x10 x13 s0 s1 v_rowsOf v_columnsOf v_shapeRows v_shapeColumns v_row v_column v_below v_face v_high v_to v_pileSize = mm_ck (mm_inb s1 v_high.length) (mm_nm (mm_is v_high s1 s0) (fun (l_58 : List Int32) =>
    mm_ck (mm_inb x10 v_face.length) (mm_nm (((1 : Int32) - (mm_ig v_face x10))) (fun (y_60 : Int32) =>
    mm_ck (mm_inb x10 v_face.length) (mm_nm (mm_is v_face x10 y_60) (fun (l_62 : List Int32) =>
    mm_nm ((x13 - x8)) (fun (y_63 : Int32) =>
    mm_ck (mm_inb x9 v_to.length) (mm_nm (mm_is v_to x9 y_63) (fun (l_65 : List Int32) =>
    fX9_movesAll_402 N k_174 x1 x2 x4 x5 x6 x7 x8 x9 v_rowsOf v_columnsOf v_shapeRows v_shapeColumns v_row v_column v_below l_62 l_58 l_65 v_pileSize))))))))) := rfl

theorem uf_X9_movesAll_389 (N : Nat) (k_174 : Int32 → Int32 → Int32 → Int32 → Int32 → Int32 → Int32 → Int32 → Int32 → Int32 → List Int32 → List Int32 → List Int32 → List Int32 → List Int32 → List Int32 → List Int32 → List Int32 → List Int32 → Option (List Int32 × List Int32 × List Int32 × List Int32 × List Int32 × List Int32 × List Int32 × List Int32 × List Int32)) (x1 : Int32) (x2 : Int32) (x4 : Int32) (x5 : Int32) (x6 : Int32) (x7 : Int32) (x8 : Int32) (x9 : Int32) (x11 : Int32) (s0 : Int32) (s1 : Int32) (v_rowsOf : Int32) (v_columnsOf : Int32) (v_shapeRows : List Int32) (v_shapeColumns : List Int32) (v_row : List Int32) (v_column : List Int32) (v_below : List Int32) (v_face : List Int32) (v_high : List Int32) (v_to : List Int32) (v_pileSize : List Int32) : fX9_movesAll_389 N k_174 x1 x2 x4 x5 x6 x7 x8 x9 x11 s0 s1 v_rowsOf v_columnsOf v_shapeRows v_shapeColumns v_row v_column v_below v_face v_high v_to v_pileSize = mm_ck (mm_inb s1 v_high.length) (mm_nm (mm_is v_high s1 s0) (fun (l_68 : List Int32) =>
    mm_nm ((x11 - x8)) (fun (y_69 : Int32) =>
    mm_ck (mm_inb x9 v_to.length) (mm_nm (mm_is v_to x9 y_69) (fun (l_71 : List Int32) =>
    fX9_movesAll_402 N k_174 x1 x2 x4 x5 x6 x7 x8 x9 v_rowsOf v_columnsOf v_shapeRows v_shapeColumns v_row v_column v_below v_face l_68 l_71 v_pileSize))))) := rfl

theorem uf_X9_movesAll_402 (N : Nat) (k_174 : Int32 → Int32 → Int32 → Int32 → Int32 → Int32 → Int32 → Int32 → Int32 → Int32 → List Int32 → List Int32 → List Int32 → List Int32 → List Int32 → List Int32 → List Int32 → List Int32 → List Int32 → Option (List Int32 × List Int32 × List Int32 × List Int32 × List Int32 × List Int32 × List Int32 × List Int32 × List Int32)) (x1 : Int32) (x2 : Int32) (x4 : Int32) (x5 : Int32) (x6 : Int32) (x7 : Int32) (x8 : Int32) (x9 : Int32) (v_rowsOf : Int32) (v_columnsOf : Int32) (v_shapeRows : List Int32) (v_shapeColumns : List Int32) (v_row : List Int32) (v_column : List Int32) (v_below : List Int32) (v_face : List Int32) (v_high : List Int32) (v_to : List Int32) (v_pileSize : List Int32) : fX9_movesAll_402 N k_174 x1 x2 x4 x5 x6 x7 x8 x9 v_rowsOf v_columnsOf v_shapeRows v_shapeColumns v_row v_column v_below v_face v_high v_to v_pileSize = mm_nm (x9 + (1 : Int32)) (fun (y_66 : Int32) =>
    k_174 x1 x2 x4 x5 x6 x7 x8 y_66 v_rowsOf v_columnsOf v_shapeRows v_shapeColumns v_row v_column v_below v_face v_high v_to v_pileSize) := rfl

theorem uf_X9_pileAt (N : Nat) (x0 : Int32) (x1 : Int32) : fX9_pileAt N x0 x1 = some ((((8 : Int32) * x1) + x0)) := rfl

theorem mv_326 (N : Nat) (k_174 : Int32 → Int32 → Int32 → Int32 → Int32 → Int32 → Int32 → Int32 → Int32 → Int32 → List Int32 → List Int32 → List Int32 → List Int32 → List Int32 → List Int32 → List Int32 → List Int32 → List Int32 → Option (List Int32 × List Int32 × List Int32 × List Int32 × List Int32 × List Int32 × List Int32 × List Int32 × List Int32)) (x1 : Int32) (x2 : Int32) (x4 : Int32) (x5 : Int32) (x6 : Int32) (x7 : Int32) (x8 : Int32) (x9 : Int32) (x10 : Int32) (x13 : Int32) (s0 : Int32) (s1 : Int32) (v_rowsOf : Int32) (v_columnsOf : Int32) (v_shapeRows : List Int32) (v_shapeColumns : List Int32) (v_row : List Int32) (v_column : List Int32) (v_below : List Int32) (v_face : List Int32) (v_high : List Int32) (v_to : List Int32) (v_pileSize : List Int32) {Q : List Int32 × List Int32 × List Int32 × List Int32 × List Int32 × List Int32 × List Int32 × List Int32 × List Int32 → Prop} {M : Int} {u_fac : List Int32} {A B9 : Int} (f1 : v_face.length = 192) (f2 : v_high.length = 32) (f3 : v_to.length = 32) (a1 : 0 ≤ x9.toInt) (a2 : x9.toInt < 32) (s1a : 0 ≤ s1.toInt) (s1b : s1.toInt < 32) (b1 : 0 ≤ x10.toInt) (b2 : x10.toInt < 192) (b3 : A ≤ x10.toInt) (b4 : x10.toInt < B9) (d1 : 0 ≤ x13.toInt - x8.toInt) (d2 : x13.toInt - x8.toInt < M) (d3 : M ≤ 1000) (fr1 : fr u_fac v_face A B9) (z1 : zn v_to 0 x9.toInt 0 M) (K : ∀ (y : Int32) (l1 l2 l3 : List Int32), y.toInt = x9.toInt + 1 → l1.length = 192 → l2.length = 32 → l3.length = 32 → fr u_fac l1 A B9 → zn l3 0 y.toInt 0 M → wp (k_174 x1 x2 x4 x5 x6 x7 x8 y v_rowsOf v_columnsOf v_shapeRows v_shapeColumns v_row v_column v_below l1 l2 l3 v_pileSize) Q) : wp (fX9_movesAll_326 N k_174 x1 x2 x4 x5 x6 x7 x8 x9 x10 x13 s0 s1 v_rowsOf v_columnsOf v_shapeRows v_shapeColumns v_row v_column v_below v_face v_high v_to v_pileSize) Q := by
  have n_1 : (1 : Int32).toInt = 1 := by decide
  refine wp_of (uf_X9_movesAll_326 _ _ _ _ _ _ _ _ _ _ _ _ _ _ _ _ _ _ _ _ _ _ _ _ _) ?_
  refine wp_ck (i_inb (by omega) (by omega)) ?_
  refine wp_nm (fun l_2 h_l_2 => ?_)
  have nl_2 : l_2.length = 32 := by rw [h_l_2, is_len]; assumption
  refine wp_ck (i_inb (by omega) (by omega)) ?_
  refine wp_nm (fun y_60 _ => ?_)
  refine wp_ck (i_inb (by omega) (by omega)) ?_
  refine wp_nm (fun l_1 h_l_1 => ?_)
  have nl_1 : l_1.length = 192 := by rw [h_l_1, is_len]; assumption
  refine wp_nm (fun y_63 h_y_63 => ?_)
  have e_47 := i_subE h_y_63.symm (by omega) (by omega)
  refine wp_ck (i_inb (by omega) (by omega)) ?_
  refine wp_nm (fun l_3 h_l_3 => ?_)
  have nl_3 : l_3.length = 32 := by rw [h_l_3, is_len]; assumption
  refine wp_of (uf_X9_movesAll_402 _ _ _ _ _ _ _ _ _ _ _ _ _ _ _ _ _ _ _ _ _) ?_
  refine wp_nm (fun y_66 h_y_66 => ?_)
  have e_48 := i_addE h_y_66.symm (by omega) (by omega)
  exact K y_66 l_1 l_2 l_3 (by omega) nl_1 nl_2 nl_3 (by rw [h_l_1]; exact fr_set fr1 (by omega) (by omega) (by omega)) (by rw [h_l_3]; exact zn_ext z1 (by omega) (by omega) (by omega) (by omega) (by omega))

theorem mv_389 (N : Nat) (k_174 : Int32 → Int32 → Int32 → Int32 → Int32 → Int32 → Int32 → Int32 → Int32 → Int32 → List Int32 → List Int32 → List Int32 → List Int32 → List Int32 → List Int32 → List Int32 → List Int32 → List Int32 → Option (List Int32 × List Int32 × List Int32 × List Int32 × List Int32 × List Int32 × List Int32 × List Int32 × List Int32)) (x1 : Int32) (x2 : Int32) (x4 : Int32) (x5 : Int32) (x6 : Int32) (x7 : Int32) (x8 : Int32) (x9 : Int32) (x11 : Int32) (s0 : Int32) (s1 : Int32) (v_rowsOf : Int32) (v_columnsOf : Int32) (v_shapeRows : List Int32) (v_shapeColumns : List Int32) (v_row : List Int32) (v_column : List Int32) (v_below : List Int32) (v_face : List Int32) (v_high : List Int32) (v_to : List Int32) (v_pileSize : List Int32) {Q : List Int32 × List Int32 × List Int32 × List Int32 × List Int32 × List Int32 × List Int32 × List Int32 × List Int32 → Prop} {M : Int} (f2 : v_high.length = 32) (f3 : v_to.length = 32) (a1 : 0 ≤ x9.toInt) (a2 : x9.toInt < 32) (s1a : 0 ≤ s1.toInt) (s1b : s1.toInt < 32) (d1 : 0 ≤ x11.toInt - x8.toInt) (d2 : x11.toInt - x8.toInt < M) (d3 : M ≤ 1000) (z1 : zn v_to 0 x9.toInt 0 M) (K : ∀ (y : Int32) (l2 l3 : List Int32), y.toInt = x9.toInt + 1 → l2.length = 32 → l3.length = 32 → zn l3 0 y.toInt 0 M → wp (k_174 x1 x2 x4 x5 x6 x7 x8 y v_rowsOf v_columnsOf v_shapeRows v_shapeColumns v_row v_column v_below v_face l2 l3 v_pileSize) Q) : wp (fX9_movesAll_389 N k_174 x1 x2 x4 x5 x6 x7 x8 x9 x11 s0 s1 v_rowsOf v_columnsOf v_shapeRows v_shapeColumns v_row v_column v_below v_face v_high v_to v_pileSize) Q := by
  have n_1 : (1 : Int32).toInt = 1 := by decide
  refine wp_of (uf_X9_movesAll_389 _ _ _ _ _ _ _ _ _ _ _ _ _ _ _ _ _ _ _ _ _ _ _ _) ?_
  refine wp_ck (i_inb (by omega) (by omega)) ?_
  refine wp_nm (fun l_2 h_l_2 => ?_)
  have nl_2 : l_2.length = 32 := by rw [h_l_2, is_len]; assumption
  refine wp_nm (fun y_63 h_y_63 => ?_)
  have e_47 := i_subE h_y_63.symm (by omega) (by omega)
  refine wp_ck (i_inb (by omega) (by omega)) ?_
  refine wp_nm (fun l_3 h_l_3 => ?_)
  have nl_3 : l_3.length = 32 := by rw [h_l_3, is_len]; assumption
  refine wp_of (uf_X9_movesAll_402 _ _ _ _ _ _ _ _ _ _ _ _ _ _ _ _ _ _ _ _ _) ?_
  refine wp_nm (fun y_66 h_y_66 => ?_)
  have e_48 := i_addE h_y_66.symm (by omega) (by omega)
  exact K y_66 l_2 l_3 (by omega) nl_2 nl_3 (by rw [h_l_3]; exact zn_ext z1 (by omega) (by omega) (by omega) (by omega) (by omega))

set_option maxHeartbeats 4000000 in
set_option maxRecDepth 20000 in
theorem sf_X9_movesAll_174_r {N : Nat} (hN : 700 ≤ N) {u_row : List Int32} {u_col : List Int32} {u_sR : List Int32} {u_sC : List Int32} {A : Int} {B9 : Int} {a9 : Int} {b9 : Int} : ∀ (n : Nat) (x1 : Int32) (x2 : Int32) (x4 : Int32) (x5 : Int32) (x6 : Int32) (x7 : Int32) (x8 : Int32) (x9 : Int32) (v_rowsOf : Int32) (v_columnsOf : Int32) (v_shapeRows : List Int32) (v_shapeColumns : List Int32) (v_row : List Int32) (v_column : List Int32) (v_below : List Int32) (v_face : List Int32) (v_high : List Int32) (v_to : List Int32) (v_pileSize : List Int32), 1 ≤ v_rowsOf.toInt → v_rowsOf.toInt ≤ 4 → 1 ≤ v_columnsOf.toInt → v_columnsOf.toInt ≤ 8 → v_shapeRows.length = 6 → v_shapeColumns.length = 6 → v_row.length = 192 → v_column.length = 192 → v_below.length = 192 → v_face.length = 192 → v_high.length = 32 → v_to.length = 32 → v_pileSize.length = 64 → 0 ≤ x1.toInt → x1.toInt ≤ 5 → (x4 = (0 : Int32)) → 1 ≤ x2.toInt → x2.toInt < x7.toInt → x7.toInt = (mm_ig v_shapeRows x1).toInt → (x5.toInt = 1 ∧ x8.toInt = x2.toInt) ∨ (x5.toInt = 0 ∧ x8.toInt = min 0 (2 * x2.toInt - x7.toInt)) → fr u_row v_row A B9 → fr u_col v_column A B9 → fr u_sR v_shapeRows a9 b9 → fr u_sC v_shapeColumns a9 b9 → A ≤ 32 * x1.toInt → 32 * x1.toInt + 32 ≤ B9 → a9 ≤ x1.toInt → x1.toInt < b9 → lv9 v_rowsOf v_columnsOf v_shapeRows v_shapeColumns v_row v_column x1 → 0 ≤ x9.toInt → x9.toInt ≤ v_rowsOf.toInt * v_columnsOf.toInt → zn v_to 0 x9.toInt 0 (max x2.toInt (x7.toInt - x2.toInt)) → (v_rowsOf.toInt * v_columnsOf.toInt - x9.toInt).toNat < n → wp (fX9_movesAll_174 N n x1 x2 x4 x5 x6 x7 x8 x9 v_rowsOf v_columnsOf v_shapeRows v_shapeColumns v_row v_column v_below v_face v_high v_to v_pileSize) (cu9 (fun (wv_shapeRows : List Int32) (wv_shapeColumns : List Int32) (wv_row : List Int32) (wv_column : List Int32) (wv_below : List Int32) (wv_face : List Int32) (wv_high : List Int32) (wv_to : List Int32) (wv_pileSize : List Int32) => wv_shapeRows.length = 6 ∧ wv_shapeColumns.length = 6 ∧ wv_row.length = 192 ∧ wv_column.length = 192 ∧ wv_below.length = 192 ∧ wv_face.length = 192 ∧ wv_high.length = 32 ∧ wv_to.length = 32 ∧ wv_pileSize.length = 64 ∧ fr u_row wv_row A B9 ∧ fr u_col wv_column A B9 ∧ fr u_sR wv_shapeRows a9 b9 ∧ fr u_sC wv_shapeColumns a9 b9 ∧ lv9 v_rowsOf v_columnsOf wv_shapeRows wv_shapeColumns wv_row wv_column x1)) := by
  intro n
  induction n with
  | zero =>
    intro x1 x2 x4 x5 x6 x7 x8 x9 v_rowsOf v_columnsOf v_shapeRows v_shapeColumns v_row v_column v_below v_face v_high v_to v_pileSize h_0 h_1 h_2 h_3 h_4 h_5 h_6 h_7 h_8 h_9 h_10 h_11 h_12 h_13 h_14 h_15 h_16 h_17 h_18 h_19 h_22 h_23 h_24 h_25 h_26 h_27 h_28 h_29 h_30 h_31 h_32 h_33 hm
    exact absurd hm (by omega)
  | succ n ih =>
    intro x1 x2 x4 x5 x6 x7 x8 x9 v_rowsOf v_columnsOf v_shapeRows v_shapeColumns v_row v_column v_below v_face v_high v_to v_pileSize h_0 h_1 h_2 h_3 h_4 h_5 h_6 h_7 h_8 h_9 h_10 h_11 h_12 h_13 h_14 h_15 h_16 h_17 h_18 h_19 h_22 h_23 h_24 h_25 h_26 h_27 h_28 h_29 h_30 h_31 h_32 h_33 hm
    have m3 := (i_fl (a := v_rowsOf) (b := v_columnsOf) (by omega) (by omega) (by omega) (by omega)).2
    obtain ⟨l1, l2, l3, l4, l5, l6⟩ := id (show lv9 v_rowsOf v_columnsOf v_shapeRows v_shapeColumns v_row v_column x1 by assumption)
    refine wp_of (uf_X9_movesAll_174 _ _ _ _ _ _ _ _ _ _ _ _ _ _ _ _ _ _ _ _ _) ?_
    refine wp_bd1 (sf_X9_fields hN h_0 h_1 h_2 h_3) (fun r_30 ⟨q_1, q_2, q_3⟩ => ?_)
    refine wp_if (fun c_4 => ?_) (fun c_4 => ?_)
    ·
      have dc_4 := i_le c_4
      have n_5 : (0 : Int32).toInt = 0 := by decide
      exact sf_X9_movesAll_411_r (u_row := u_row) (u_col := u_col) (u_sR := u_sR) (u_sC := u_sC) (A := A) (B9 := B9) (a9 := a9) (b9 := b9) hN _ _ _ _ _ _ _ _ _ _ _ _ _ _ _ _ _ h_0 h_1 h_2 h_3 h_4 h_5 h_6 h_7 h_8 h_9 h_10 h_11 h_12 h_13 h_14 h_15 h_16 h_17 h_18 h_22 h_23 h_24 h_25 h_26 h_27 h_28 h_29 (by omega) (by omega) (by omega) (by omega) (by first | assumption | exact zn_sub l6 (by omega) (by omega) (by omega) (by omega) | exact zn_nil (by omega) | (exfalso; omega)) (by first | assumption | exact zn_sub h_33 (by omega) (by omega) (by omega) (by omega) | exact zn_nil (by omega) | (exfalso; omega)) (by first | assumption | exact zn_nil (by omega) | exact zn_sub l5 (by omega) (by omega) (by omega) (by omega) | (exfalso; omega)) (by omega) (by omega) (by omega)
    ·
      have dc_4 := i_nle c_4
      have n_6 : (32 : Int32).toInt = 32 := by decide
      generalize hz_z : ((32 : Int32) * x1) = z
      have e_7 := i_mulLE (c := 32) (by decide) hz_z (by omega) (by omega)
      refine wp_nm (fun y_33 h_y_33 => ?_)
      have e_8 := i_addE h_y_33.symm (by omega) (by omega)
      have a2k : x9.toInt < 32 := by omega
      have b1k : 0 ≤ y_33.toInt := by omega
      have b2k : y_33.toInt < 192 := by omega
      have b3k : A ≤ y_33.toInt := by omega
      have b4k : y_33.toInt < B9 := by omega
      have d3k : max x2.toInt (x7.toInt - x2.toInt) ≤ 1000 := by omega
      have K : ∀ (y : Int32) (l1 l2 l3 : List Int32), y.toInt = x9.toInt + 1 → l1.length = 192 → l2.length = 32 → l3.length = 32 → fr v_face l1 A B9 → zn l3 0 y.toInt 0 (max x2.toInt (x7.toInt - x2.toInt)) → wp (fX9_movesAll_174 N n x1 x2 x4 x5 x6 x7 x8 y v_rowsOf v_columnsOf v_shapeRows v_shapeColumns v_row v_column v_below l1 l2 l3 v_pileSize) (cu9 (fun (wv_shapeRows : List Int32) (wv_shapeColumns : List Int32) (wv_row : List Int32) (wv_column : List Int32) (wv_below : List Int32) (wv_face : List Int32) (wv_high : List Int32) (wv_to : List Int32) (wv_pileSize : List Int32) => wv_shapeRows.length = 6 ∧ wv_shapeColumns.length = 6 ∧ wv_row.length = 192 ∧ wv_column.length = 192 ∧ wv_below.length = 192 ∧ wv_face.length = 192 ∧ wv_high.length = 32 ∧ wv_to.length = 32 ∧ wv_pileSize.length = 64 ∧ fr u_row wv_row A B9 ∧ fr u_col wv_column A B9 ∧ fr u_sR wv_shapeRows a9 b9 ∧ fr u_sC wv_shapeColumns a9 b9 ∧ lv9 v_rowsOf v_columnsOf wv_shapeRows wv_shapeColumns wv_row wv_column x1)) := fun y l1 l2 l3 ky k1 k2 k3 kf kz => ih _ _ _ _ _ _ _ _ _ _ _ _ _ _ _ _ _ _ _ h_0 h_1 h_2 h_3 h_4 h_5 h_6 h_7 h_8 k1 k2 k3 h_12 h_13 h_14 h_15 h_16 h_17 h_18 h_19 h_22 h_23 h_24 h_25 h_26 h_27 h_28 h_29 h_30 (by omega) (by omega) kz (by omega)
      clear hm ih h_26 h_27 h_28 h_29
      refine wp_in1 ?_
      refine wp_of (uf_X9_placeOf _ _ _ _ _ _) ?_
      have n_10 : (0 : Int32).toInt = 0 := by decide
      refine wp_ifp h_15 ?_
      generalize hz_z__11 : ((32 : Int32) * x1) = z__11
      have e_12 := i_mulLE (c := 32) (by decide) hz_z__11 (by omega) (by omega)
      generalize hz_z__13 : (z__11 + x9) = z__13
      have e_14 := i_addE hz_z__13 (by omega) (by omega)
      refine wp_ck (i_inb (by omega) (by omega)) ?_
      refine wp_so1 ?_
      show wp _ _
      refine wp_ifp h_15 ?_
      refine wp_of (uf_X9_movesAll_217 _ _ _ _ _ _ _ _ _ _ _ _ _ _ _ _ _ _ _ _ _ _ _ _ _ _) ?_
      refine wp_in1 ?_
      refine wp_of (uf_X9_placeOf _ _ _ _ _ _) ?_
      refine wp_ifn (by decide) ?_
      generalize hz_z__16 : ((32 : Int32) * x1) = z__16
      have e_17 := i_mulLE (c := 32) (by decide) hz_z__16 (by omega) (by omega)
      generalize hz_z__18 : (z__16 + x9) = z__18
      have e_19 := i_addE hz_z__18 (by omega) (by omega)
      refine wp_ck (i_inb (by omega) (by omega)) ?_
      refine wp_so1 ?_
      show wp _ _
      have n_20 : (2 : Int32).toInt = 2 := by decide
      generalize hz_z__21 : ((2 : Int32) * x2) = z__21
      have e_22 := i_mulLE (c := 2) (by decide) hz_z__21 (by omega) (by omega)
      have n_23 : (1 : Int32).toInt = 1 := by decide
      generalize hz_z__24 : (z__21 - (1 : Int32)) = z__24
      have e_25 := i_subE hz_z__24 (by omega) (by omega)
      obtain ⟨e_26, e1_26⟩ := zn_get l5 (i := z__13) (by omega) (by omega) (by omega) (by omega)
      refine wp_nm (fun y_39 h_y_39 => ?_)
      have e_27 := i_subE h_y_39.symm (by omega) (by omega)
      have n_28 := i_64 y_39
      have n_29 : (0 : Int64).toInt = 0 := by decide
      generalize hz_z__30 : (x7 - (1 : Int32)) = z__30
      have e_31 := i_subE hz_z__30 (by omega) (by omega)
      have n_32 := i_64 z__30
      refine wp_bd1 (sf_X9_within hN ) (fun r_40 q_33 => ?_)
      rcases q_33 with ⟨rfl, q_33⟩ | ⟨rfl, q_33⟩
      ·
        refine wp_ifn (by decide) ?_
        refine wp_in1 ?_
        refine wp_of (uf_X9_pileAt _ _ _) ?_
        refine wp_so1 ?_
        show wp _ _
        have n_34 : (8 : Int32).toInt = 8 := by decide
        obtain ⟨e_35, e1_35⟩ := zn_get l6 (i := z__18) (by omega) (by omega) (by omega) (by omega)
        generalize hz_z__36 : ((8 : Int32) * (mm_ig v_column z__18)) = z__36
        have e_37 := i_mulLE (c := 8) (by decide) hz_z__36 (by omega) (by omega)
        generalize hz_z__38 : (z__36 + y_39) = z__38
        have e_39 := i_addE hz_z__38 (by omega) (by omega)
        refine wp_ck (i_inb (by omega) (by omega)) ?_
        refine wp_of (uf_X9_movesAll_263 _ _ _ _ _ _ _ _ _ _ _ _ _ _ _ _ _ _ _ _ _ _ _ _ _ _) ?_
        refine wp_if (fun c_40 => ?_) (fun c_40 => ?_)
        ·
          have dc_40 := i_le c_40
          refine wp_of (uf_X9_movesAll_276 _ _ _ _ _ _ _ _ _ _ _ _ _ _ _ _ _ _ _ _ _ _ _ _ _ _ _) ?_
          refine wp_if (fun c_41 => ?_) (fun c_41 => ?_)
          ·
            have dc_41 := i_eq c_41
            refine wp_in1 ?_
            refine wp_of (uf_X9_pileAt _ _ _) ?_
            refine wp_so1 ?_
            show wp _ _
            generalize hz_z__42 : ((8 : Int32) * (mm_ig v_column z__18)) = z__42
            have e_43 := i_mulLE (c := 8) (by decide) hz_z__42 (by omega) (by omega)
            generalize hz_z__44 : (z__42 + (mm_ig v_row z__13)) = z__44
            have e_45 := i_addE hz_z__44 (by omega) (by omega)
            refine wp_ck (i_inb (by omega) (by omega)) ?_
            refine wp_ck (i_inb (by omega) (by omega)) ?_
            refine wp_nm (fun y_55 _ => ?_)
            refine wp_if (fun c_46 => ?_) (fun c_46 => ?_)
            ·
              have dc_46 := i_eq c_46
              exact mv_326 _ _ _ _ _ _ _ _ _ _ _ _ _ _ _ _ _ _ _ _ _ _ _ _ _ h_9 h_10 h_11 h_31 a2k h_31 a2k b1k b2k b3k b4k (by omega) (by omega) d3k (fr_refl _ _ _) h_33 K
            ·
              have dc_46 := i_ne c_46
              exact mv_326 _ _ _ _ _ _ _ _ _ _ _ _ _ _ _ _ _ _ _ _ _ _ _ _ _ h_9 h_10 h_11 h_31 a2k h_31 a2k b1k b2k b3k b4k (by omega) (by omega) d3k (fr_refl _ _ _) h_33 K
          ·
            have dc_41 := i_ne c_41
            refine wp_if (fun c_57 => ?_) (fun c_57 => ?_)
            ·
              have dc_57 := i_eq c_57
              refine wp_ck (i_inb (by omega) (by omega)) ?_
              exact mv_389 _ _ _ _ _ _ _ _ _ _ _ _ _ _ _ _ _ _ _ _ _ _ _ _ h_10 h_11 h_31 a2k h_31 a2k (by omega) (by omega) d3k h_33 (fun y l2 l3 ky k2 k3 kz => K y v_face l2 l3 ky h_9 k2 k3 (fr_refl _ _ _) kz)
            ·
              have dc_57 := i_ne c_57
              refine wp_ck (i_inb (by omega) (by omega)) ?_
              exact mv_389 _ _ _ _ _ _ _ _ _ _ _ _ _ _ _ _ _ _ _ _ _ _ _ _ h_10 h_11 h_31 a2k h_31 a2k (by omega) (by omega) d3k h_33 (fun y l2 l3 ky k2 k3 kz => K y v_face l2 l3 ky h_9 k2 k3 (fr_refl _ _ _) kz)
        ·
          have dc_40 := i_nle c_40
          refine wp_of (uf_X9_movesAll_276 _ _ _ _ _ _ _ _ _ _ _ _ _ _ _ _ _ _ _ _ _ _ _ _ _ _ _) ?_
          refine wp_if (fun c_67 => ?_) (fun c_67 => ?_)
          ·
            have dc_67 := i_eq c_67
            refine wp_in1 ?_
            refine wp_of (uf_X9_pileAt _ _ _) ?_
            refine wp_so1 ?_
            show wp _ _
            generalize hz_z__68 : ((8 : Int32) * (mm_ig v_column z__18)) = z__68
            have e_69 := i_mulLE (c := 8) (by decide) hz_z__68 (by omega) (by omega)
            generalize hz_z__70 : (z__68 + (mm_ig v_row z__13)) = z__70
            have e_71 := i_addE hz_z__70 (by omega) (by omega)
            refine wp_ck (i_inb (by omega) (by omega)) ?_
            refine wp_ck (i_inb (by omega) (by omega)) ?_
            refine wp_nm (fun y_55__72 _ => ?_)
            refine wp_if (fun c_73 => ?_) (fun c_73 => ?_)
            ·
              have dc_73 := i_eq c_73
              exact mv_326 _ _ _ _ _ _ _ _ _ _ _ _ _ _ _ _ _ _ _ _ _ _ _ _ _ h_9 h_10 h_11 h_31 a2k h_31 a2k b1k b2k b3k b4k (by omega) (by omega) d3k (fr_refl _ _ _) h_33 K
            ·
              have dc_73 := i_ne c_73
              exact mv_326 _ _ _ _ _ _ _ _ _ _ _ _ _ _ _ _ _ _ _ _ _ _ _ _ _ h_9 h_10 h_11 h_31 a2k h_31 a2k b1k b2k b3k b4k (by omega) (by omega) d3k (fr_refl _ _ _) h_33 K
          ·
            have dc_67 := i_ne c_67
            refine wp_if (fun c_90 => ?_) (fun c_90 => ?_)
            ·
              have dc_90 := i_eq c_90
              refine wp_ck (i_inb (by omega) (by omega)) ?_
              exact mv_389 _ _ _ _ _ _ _ _ _ _ _ _ _ _ _ _ _ _ _ _ _ _ _ _ h_10 h_11 h_31 a2k h_31 a2k (by omega) (by omega) d3k h_33 (fun y l2 l3 ky k2 k3 kz => K y v_face l2 l3 ky h_9 k2 k3 (fr_refl _ _ _) kz)
            ·
              have dc_90 := i_ne c_90
              refine wp_ck (i_inb (by omega) (by omega)) ?_
              exact mv_389 _ _ _ _ _ _ _ _ _ _ _ _ _ _ _ _ _ _ _ _ _ _ _ _ h_10 h_11 h_31 a2k h_31 a2k (by omega) (by omega) d3k h_33 (fun y l2 l3 ky k2 k3 kz => K y v_face l2 l3 ky h_9 k2 k3 (fr_refl _ _ _) kz)
      ·
        refine wp_ifp (by decide) ?_
        refine wp_of (uf_X9_movesAll_263 _ _ _ _ _ _ _ _ _ _ _ _ _ _ _ _ _ _ _ _ _ _ _ _ _ _) ?_
        refine wp_if (fun c_103 => ?_) (fun c_103 => ?_)
        ·
          have dc_103 := i_le c_103
          refine wp_of (uf_X9_movesAll_276 _ _ _ _ _ _ _ _ _ _ _ _ _ _ _ _ _ _ _ _ _ _ _ _ _ _ _) ?_
          refine wp_if (fun c_104 => ?_) (fun c_104 => ?_)
          ·
            have dc_104 := i_eq c_104
            refine wp_in1 ?_
            refine wp_of (uf_X9_pileAt _ _ _) ?_
            refine wp_so1 ?_
            show wp _ _
            have n_105 : (8 : Int32).toInt = 8 := by decide
            obtain ⟨e_106, e1_106⟩ := zn_get l6 (i := z__18) (by omega) (by omega) (by omega) (by omega)
            generalize hz_z__107 : ((8 : Int32) * (mm_ig v_column z__18)) = z__107
            have e_108 := i_mulLE (c := 8) (by decide) hz_z__107 (by omega) (by omega)
            generalize hz_z__109 : (z__107 + (mm_ig v_row z__13)) = z__109
            have e_110 := i_addE hz_z__109 (by omega) (by omega)
            refine wp_ck (i_inb (by omega) (by omega)) ?_
            refine wp_ck (i_inb (by omega) (by omega)) ?_
            refine wp_nm (fun y_55__111 _ => ?_)
            refine wp_if (fun c_112 => ?_) (fun c_112 => ?_)
            ·
              have dc_112 := i_eq c_112
              exact mv_326 _ _ _ _ _ _ _ _ _ _ _ _ _ _ _ _ _ _ _ _ _ _ _ _ _ h_9 h_10 h_11 h_31 a2k h_31 a2k b1k b2k b3k b4k (by omega) (by omega) d3k (fr_refl _ _ _) h_33 K
            ·
              have dc_112 := i_ne c_112
              exact mv_326 _ _ _ _ _ _ _ _ _ _ _ _ _ _ _ _ _ _ _ _ _ _ _ _ _ h_9 h_10 h_11 h_31 a2k h_31 a2k b1k b2k b3k b4k (by omega) (by omega) d3k (fr_refl _ _ _) h_33 K
          ·
            have dc_104 := i_ne c_104
            refine wp_if (fun c_129 => ?_) (fun c_129 => ?_)
            ·
              have dc_129 := i_eq c_129
              refine wp_ck (i_inb (by omega) (by omega)) ?_
              exact mv_389 _ _ _ _ _ _ _ _ _ _ _ _ _ _ _ _ _ _ _ _ _ _ _ _ h_10 h_11 h_31 a2k h_31 a2k (by omega) (by omega) d3k h_33 (fun y l2 l3 ky k2 k3 kz => K y v_face l2 l3 ky h_9 k2 k3 (fr_refl _ _ _) kz)
            ·
              have dc_129 := i_ne c_129
              refine wp_ck (i_inb (by omega) (by omega)) ?_
              exact mv_389 _ _ _ _ _ _ _ _ _ _ _ _ _ _ _ _ _ _ _ _ _ _ _ _ h_10 h_11 h_31 a2k h_31 a2k (by omega) (by omega) d3k h_33 (fun y l2 l3 ky k2 k3 kz => K y v_face l2 l3 ky h_9 k2 k3 (fr_refl _ _ _) kz)
        ·
          have dc_103 := i_nle c_103
          refine wp_of (uf_X9_movesAll_276 _ _ _ _ _ _ _ _ _ _ _ _ _ _ _ _ _ _ _ _ _ _ _ _ _ _ _) ?_
          refine wp_if (fun c_142 => ?_) (fun c_142 => ?_)
          ·
            have dc_142 := i_eq c_142
            refine wp_in1 ?_
            refine wp_of (uf_X9_pileAt _ _ _) ?_
            refine wp_so1 ?_
            show wp _ _
            have n_143 : (8 : Int32).toInt = 8 := by decide
            obtain ⟨e_144, e1_144⟩ := zn_get l6 (i := z__18) (by omega) (by omega) (by omega) (by omega)
            generalize hz_z__145 : ((8 : Int32) * (mm_ig v_column z__18)) = z__145
            have e_146 := i_mulLE (c := 8) (by decide) hz_z__145 (by omega) (by omega)
            generalize hz_z__147 : (z__145 + (mm_ig v_row z__13)) = z__147
            have e_148 := i_addE hz_z__147 (by omega) (by omega)
            refine wp_ck (i_inb (by omega) (by omega)) ?_
            refine wp_ck (i_inb (by omega) (by omega)) ?_
            refine wp_nm (fun y_55__149 _ => ?_)
            refine wp_if (fun c_150 => ?_) (fun c_150 => ?_)
            ·
              have dc_150 := i_eq c_150
              exact mv_326 _ _ _ _ _ _ _ _ _ _ _ _ _ _ _ _ _ _ _ _ _ _ _ _ _ h_9 h_10 h_11 h_31 a2k h_31 a2k b1k b2k b3k b4k (by omega) (by omega) d3k (fr_refl _ _ _) h_33 K
            ·
              have dc_150 := i_ne c_150
              exact mv_326 _ _ _ _ _ _ _ _ _ _ _ _ _ _ _ _ _ _ _ _ _ _ _ _ _ h_9 h_10 h_11 h_31 a2k h_31 a2k b1k b2k b3k b4k (by omega) (by omega) d3k (fr_refl _ _ _) h_33 K
          ·
            have dc_142 := i_ne c_142
            refine wp_if (fun c_167 => ?_) (fun c_167 => ?_)
            ·
              have dc_167 := i_eq c_167
              refine wp_ck (i_inb (by omega) (by omega)) ?_
              exact mv_389 _ _ _ _ _ _ _ _ _ _ _ _ _ _ _ _ _ _ _ _ _ _ _ _ h_10 h_11 h_31 a2k h_31 a2k (by omega) (by omega) d3k h_33 (fun y l2 l3 ky k2 k3 kz => K y v_face l2 l3 ky h_9 k2 k3 (fr_refl _ _ _) kz)
            ·
              have dc_167 := i_ne c_167
              refine wp_ck (i_inb (by omega) (by omega)) ?_
              exact mv_389 _ _ _ _ _ _ _ _ _ _ _ _ _ _ _ _ _ _ _ _ _ _ _ _ h_10 h_11 h_31 a2k h_31 a2k (by omega) (by omega) d3k h_33 (fun y l2 l3 ky k2 k3 kz => K y v_face l2 l3 ky h_9 k2 k3 (fr_refl _ _ _) kz)

theorem uf_X9_movesAll_118 (N : Nat) (n : Nat) (x1 : Int32) (x2 : Int32) (x4 : Int32) (x5 : Int32) (x6 : Int32) (x7 : Int32) (x8 : Int32) (x9 : Int32) (v_rowsOf : Int32) (v_columnsOf : Int32) (v_shapeRows : List Int32) (v_shapeColumns : List Int32) (v_row : List Int32) (v_column : List Int32) (v_below : List Int32) (v_face : List Int32) (v_high : List Int32) (v_to : List Int32) (v_pileSize : List Int32) : fX9_movesAll_118 N (n + 1) x1 x2 x4 x5 x6 x7 x8 x9 v_rowsOf v_columnsOf v_shapeRows v_shapeColumns v_row v_column v_below v_face v_high v_to v_pileSize = 
    mm_bd1 (fX9_fields N v_rowsOf v_columnsOf) (fun (r_15 : Int32) =>
    if r_15 ≤ x9 then
    (fX9_movesAll_174 N N x1 x2 x4 x5 x6 x7 x8 (0 : Int32) v_rowsOf v_columnsOf v_shapeRows v_shapeColumns v_row v_column v_below v_face v_high v_to v_pileSize)
    else (mm_bd1 (fX9_placeOf N x1 x9 x4 v_row v_column) (fun (r_18 : Int32) =>
    if x4 = 0 then
    (fX9_movesAll_154 N (fX9_movesAll_118 N n) x1 x2 x4 x5 x6 x7 x8 x9 (1 : Int32) x9 x1 r_18 v_rowsOf v_columnsOf v_shapeRows v_shapeColumns v_row v_column v_below v_face v_high v_to v_pileSize)
    else (fX9_movesAll_154 N (fX9_movesAll_118 N n) x1 x2 x4 x5 x6 x7 x8 x9 (0 : Int32) x9 x1 r_18 v_rowsOf v_columnsOf v_shapeRows v_shapeColumns v_row v_column v_below v_face v_high v_to v_pileSize)))) := rfl

theorem uf_X9_movesAll_154 (N : Nat) (k_118 : Int32 → Int32 → Int32 → Int32 → Int32 → Int32 → Int32 → Int32 → Int32 → Int32 → List Int32 → List Int32 → List Int32 → List Int32 → List Int32 → List Int32 → List Int32 → List Int32 → List Int32 → Option (List Int32 × List Int32 × List Int32 × List Int32 × List Int32 × List Int32 × List Int32 × List Int32 × List Int32)) (x1 : Int32) (x2 : Int32) (x4 : Int32) (x5 : Int32) (x6 : Int32) (x7 : Int32) (x8 : Int32) (x9 : Int32) (s0 : Int32) (s1 : Int32) (s2 : Int32) (s4 : Int32) (v_rowsOf : Int32) (v_columnsOf : Int32) (v_shapeRows : List Int32) (v_shapeColumns : List Int32) (v_row : List Int32) (v_column : List Int32) (v_below : List Int32) (v_face : List Int32) (v_high : List Int32) (v_to : List Int32) (v_pileSize : List Int32) : fX9_movesAll_154 N k_118 x1 x2 x4 x5 x6 x7 x8 x9 s0 s1 s2 s4 v_rowsOf v_columnsOf v_shapeRows v_shapeColumns v_row v_column v_below v_face v_high v_to v_pileSize = mm_bd1 (fX9_placeOf N s2 s1 s0 v_row v_column) (fun (r_21 : Int32) =>
    mm_bd1 (fX9_pileAt N s4 r_21) (fun (r_23 : Int32) =>
    mm_ck (mm_inb r_23 v_pileSize.length) (mm_nm (((mm_ig v_pileSize r_23) + (1 : Int32))) (fun (y_26 : Int32) =>
    mm_ck (mm_inb r_23 v_pileSize.length) (mm_nm (mm_is v_pileSize r_23 y_26) (fun (l_28 : List Int32) =>
    mm_nm (x9 + (1 : Int32)) (fun (y_29 : Int32) =>
    k_118 x1 x2 x4 x5 x6 x7 x8 y_29 v_rowsOf v_columnsOf v_shapeRows v_shapeColumns v_row v_column v_below v_face v_high v_to l_28))))))) := rfl

set_option maxHeartbeats 4000000 in
set_option maxRecDepth 20000 in
theorem sf_X9_movesAll_118_r {N : Nat} (hN : 700 ≤ N) {u_row : List Int32} {u_col : List Int32} {u_sR : List Int32} {u_sC : List Int32} {A : Int} {B9 : Int} {a9 : Int} {b9 : Int} : ∀ (n : Nat) (x1 : Int32) (x2 : Int32) (x4 : Int32) (x5 : Int32) (x6 : Int32) (x7 : Int32) (x8 : Int32) (x9 : Int32) (v_rowsOf : Int32) (v_columnsOf : Int32) (v_shapeRows : List Int32) (v_shapeColumns : List Int32) (v_row : List Int32) (v_column : List Int32) (v_below : List Int32) (v_face : List Int32) (v_high : List Int32) (v_to : List Int32) (v_pileSize : List Int32), 1 ≤ v_rowsOf.toInt → v_rowsOf.toInt ≤ 4 → 1 ≤ v_columnsOf.toInt → v_columnsOf.toInt ≤ 8 → v_shapeRows.length = 6 → v_shapeColumns.length = 6 → v_row.length = 192 → v_column.length = 192 → v_below.length = 192 → v_face.length = 192 → v_high.length = 32 → v_to.length = 32 → v_pileSize.length = 64 → 0 ≤ x1.toInt → x1.toInt ≤ 5 → (x4 = (0 : Int32)) → 1 ≤ x2.toInt → x2.toInt < x7.toInt → x7.toInt = (mm_ig v_shapeRows x1).toInt → (x5.toInt = 1 ∧ x8.toInt = x2.toInt) ∨ (x5.toInt = 0 ∧ x8.toInt = min 0 (2 * x2.toInt - x7.toInt)) → fr u_row v_row A B9 → fr u_col v_column A B9 → fr u_sR v_shapeRows a9 b9 → fr u_sC v_shapeColumns a9 b9 → A ≤ 32 * x1.toInt → 32 * x1.toInt + 32 ≤ B9 → a9 ≤ x1.toInt → x1.toInt < b9 → lv9 v_rowsOf v_columnsOf v_shapeRows v_shapeColumns v_row v_column x1 → 0 ≤ x9.toInt → x9.toInt ≤ v_rowsOf.toInt * v_columnsOf.toInt → (v_rowsOf.toInt * v_columnsOf.toInt - x9.toInt).toNat < n → wp (fX9_movesAll_118 N n x1 x2 x4 x5 x6 x7 x8 x9 v_rowsOf v_columnsOf v_shapeRows v_shapeColumns v_row v_column v_below v_face v_high v_to v_pileSize) (cu9 (fun (wv_shapeRows : List Int32) (wv_shapeColumns : List Int32) (wv_row : List Int32) (wv_column : List Int32) (wv_below : List Int32) (wv_face : List Int32) (wv_high : List Int32) (wv_to : List Int32) (wv_pileSize : List Int32) => wv_shapeRows.length = 6 ∧ wv_shapeColumns.length = 6 ∧ wv_row.length = 192 ∧ wv_column.length = 192 ∧ wv_below.length = 192 ∧ wv_face.length = 192 ∧ wv_high.length = 32 ∧ wv_to.length = 32 ∧ wv_pileSize.length = 64 ∧ fr u_row wv_row A B9 ∧ fr u_col wv_column A B9 ∧ fr u_sR wv_shapeRows a9 b9 ∧ fr u_sC wv_shapeColumns a9 b9 ∧ lv9 v_rowsOf v_columnsOf wv_shapeRows wv_shapeColumns wv_row wv_column x1)) := by
  intro n
  induction n with
  | zero =>
    intro x1 x2 x4 x5 x6 x7 x8 x9 v_rowsOf v_columnsOf v_shapeRows v_shapeColumns v_row v_column v_below v_face v_high v_to v_pileSize h_0 h_1 h_2 h_3 h_4 h_5 h_6 h_7 h_8 h_9 h_10 h_11 h_12 h_13 h_14 h_15 h_16 h_17 h_18 h_19 h_22 h_23 h_24 h_25 h_26 h_27 h_28 h_29 h_30 h_31 h_32 hm
    exact absurd hm (by omega)
  | succ n ih =>
    intro x1 x2 x4 x5 x6 x7 x8 x9 v_rowsOf v_columnsOf v_shapeRows v_shapeColumns v_row v_column v_below v_face v_high v_to v_pileSize h_0 h_1 h_2 h_3 h_4 h_5 h_6 h_7 h_8 h_9 h_10 h_11 h_12 h_13 h_14 h_15 h_16 h_17 h_18 h_19 h_22 h_23 h_24 h_25 h_26 h_27 h_28 h_29 h_30 h_31 h_32 hm
    have m3 := (i_fl (a := v_rowsOf) (b := v_columnsOf) (by omega) (by omega) (by omega) (by omega)).2
    obtain ⟨l1, l2, l3, l4, l5, l6⟩ := id (show lv9 v_rowsOf v_columnsOf v_shapeRows v_shapeColumns v_row v_column x1 by assumption)
    refine wp_of (uf_X9_movesAll_118 _ _ _ _ _ _ _ _ _ _ _ _ _ _ _ _ _ _ _ _ _) ?_
    refine wp_bd1 (sf_X9_fields hN h_0 h_1 h_2 h_3) (fun r_15 ⟨q_1, q_2, q_3⟩ => ?_)
    refine wp_if (fun c_4 => ?_) (fun c_4 => ?_)
    ·
      have dc_4 := i_le c_4
      have n_5 : (0 : Int32).toInt = 0 := by decide
      exact sf_X9_movesAll_174_r (u_row := u_row) (u_col := u_col) (u_sR := u_sR) (u_sC := u_sC) (A := A) (B9 := B9) (a9 := a9) (b9 := b9) hN _ _ _ _ _ _ _ _ _ _ _ _ _ _ _ _ _ _ _ _ h_0 h_1 h_2 h_3 h_4 h_5 h_6 h_7 h_8 h_9 h_10 h_11 h_12 h_13 h_14 h_15 h_16 h_17 h_18 h_19 h_22 h_23 h_24 h_25 h_26 h_27 h_28 h_29 h_30 (by omega) (by omega) (by first | assumption | exact zn_nil (by omega) | (exfalso; omega)) (by omega)
    ·
      have dc_4 := i_nle c_4
      refine wp_in1 ?_
      refine wp_of (uf_X9_placeOf _ _ _ _ _ _) ?_
      have n_7 : (0 : Int32).toInt = 0 := by decide
      refine wp_ifp h_15 ?_
      have n_8 : (32 : Int32).toInt = 32 := by decide
      generalize hz_z : ((32 : Int32) * x1) = z
      have e_9 := i_mulLE (c := 32) (by decide) hz_z (by omega) (by omega)
      generalize hz_z__10 : (z + x9) = z__10
      have e_11 := i_addE hz_z__10 (by omega) (by omega)
      refine wp_ck (i_inb (by omega) (by omega)) ?_
      refine wp_so1 ?_
      show wp _ _
      refine wp_ifp h_15 ?_
      refine wp_of (uf_X9_movesAll_154 _ _ _ _ _ _ _ _ _ _ _ _ _ _ _ _ _ _ _ _ _ _ _ _ _) ?_
      refine wp_in1 ?_
      refine wp_of (uf_X9_placeOf _ _ _ _ _ _) ?_
      refine wp_ifn (by decide) ?_
      generalize hz_z__13 : ((32 : Int32) * x1) = z__13
      have e_14 := i_mulLE (c := 32) (by decide) hz_z__13 (by omega) (by omega)
      generalize hz_z__15 : (z__13 + x9) = z__15
      have e_16 := i_addE hz_z__15 (by omega) (by omega)
      refine wp_ck (i_inb (by omega) (by omega)) ?_
      refine wp_so1 ?_
      show wp _ _
      refine wp_in1 ?_
      refine wp_of (uf_X9_pileAt _ _ _) ?_
      refine wp_so1 ?_
      show wp _ _
      have n_17 : (8 : Int32).toInt = 8 := by decide
      obtain ⟨e_18, e1_18⟩ := zn_get l6 (i := z__15) (by omega) (by omega) (by omega) (by omega)
      generalize hz_z__19 : ((8 : Int32) * (mm_ig v_column z__15)) = z__19
      have e_20 := i_mulLE (c := 8) (by decide) hz_z__19 (by omega) (by omega)
      obtain ⟨e_21, e1_21⟩ := zn_get l5 (i := z__10) (by omega) (by omega) (by omega) (by omega)
      generalize hz_z__22 : (z__19 + (mm_ig v_row z__10)) = z__22
      have e_23 := i_addE hz_z__22 (by omega) (by omega)
      refine wp_ck (i_inb (by omega) (by omega)) ?_
      refine wp_nm (fun y_26 _ => ?_)
      refine wp_ck (i_inb (by omega) (by omega)) ?_
      refine wp_nm (fun l_28 h_l_28 => ?_)
      have nl_l_28 : l_28.length = 64 := by rw [h_l_28, is_len]; assumption
      have n_24 : (1 : Int32).toInt = 1 := by decide
      refine wp_nm (fun y_29 h_y_29 => ?_)
      have e_25 := i_addE h_y_29.symm (by omega) (by omega)
      exact ih _ _ _ _ _ _ _ _ _ _ _ _ _ _ _ _ _ _ _ h_0 h_1 h_2 h_3 h_4 h_5 h_6 h_7 h_8 h_9 h_10 h_11 nl_l_28 h_13 h_14 h_15 h_16 h_17 h_18 h_19 h_22 h_23 h_24 h_25 h_26 h_27 h_28 h_29 h_30 (by omega) (by omega) (by omega)

theorem uf_X9_movesAll_94 (N : Nat) (n : Nat) (x1 : Int32) (x2 : Int32) (x4 : Int32) (x5 : Int32) (x6 : Int32) (x7 : Int32) (x8 : Int32) (x9 : Int32) (v_rowsOf : Int32) (v_columnsOf : Int32) (v_shapeRows : List Int32) (v_shapeColumns : List Int32) (v_row : List Int32) (v_column : List Int32) (v_below : List Int32) (v_face : List Int32) (v_high : List Int32) (v_to : List Int32) (v_pileSize : List Int32) : fX9_movesAll_94 N (n + 1) x1 x2 x4 x5 x6 x7 x8 x9 v_rowsOf v_columnsOf v_shapeRows v_shapeColumns v_row v_column v_below v_face v_high v_to v_pileSize = 
    if (64 : Int32) ≤ x9 then
    (fX9_movesAll_118 N N x1 x2 x4 x5 x6 x7 x8 (0 : Int32) v_rowsOf v_columnsOf v_shapeRows v_shapeColumns v_row v_column v_below v_face v_high v_to v_pileSize)
    else (mm_ck (mm_inb x9 v_pileSize.length) (mm_nm (mm_is v_pileSize x9 (0 : Int32)) (fun (l_13 : List Int32) =>
    mm_nm (x9 + (1 : Int32)) (fun (y_14 : Int32) =>
    fX9_movesAll_94 N n x1 x2 x4 x5 x6 x7 x8 y_14 v_rowsOf v_columnsOf v_shapeRows v_shapeColumns v_row v_column v_below v_face v_high v_to l_13)))) := rfl

set_option maxHeartbeats 4000000 in
set_option maxRecDepth 20000 in
theorem sf_X9_movesAll_94_r {N : Nat} (hN : 700 ≤ N) {u_row : List Int32} {u_col : List Int32} {u_sR : List Int32} {u_sC : List Int32} {A : Int} {B9 : Int} {a9 : Int} {b9 : Int} : ∀ (n : Nat) (x1 : Int32) (x2 : Int32) (x4 : Int32) (x5 : Int32) (x6 : Int32) (x7 : Int32) (x8 : Int32) (x9 : Int32) (v_rowsOf : Int32) (v_columnsOf : Int32) (v_shapeRows : List Int32) (v_shapeColumns : List Int32) (v_row : List Int32) (v_column : List Int32) (v_below : List Int32) (v_face : List Int32) (v_high : List Int32) (v_to : List Int32) (v_pileSize : List Int32), 1 ≤ v_rowsOf.toInt → v_rowsOf.toInt ≤ 4 → 1 ≤ v_columnsOf.toInt → v_columnsOf.toInt ≤ 8 → v_shapeRows.length = 6 → v_shapeColumns.length = 6 → v_row.length = 192 → v_column.length = 192 → v_below.length = 192 → v_face.length = 192 → v_high.length = 32 → v_to.length = 32 → v_pileSize.length = 64 → 0 ≤ x1.toInt → x1.toInt ≤ 5 → (x4 = (0 : Int32)) → 1 ≤ x2.toInt → x2.toInt < x7.toInt → x7.toInt = (mm_ig v_shapeRows x1).toInt → (x5.toInt = 1 ∧ x8.toInt = x2.toInt) ∨ (x5.toInt = 0 ∧ x8.toInt = min 0 (2 * x2.toInt - x7.toInt)) → fr u_row v_row A B9 → fr u_col v_column A B9 → fr u_sR v_shapeRows a9 b9 → fr u_sC v_shapeColumns a9 b9 → A ≤ 32 * x1.toInt → 32 * x1.toInt + 32 ≤ B9 → a9 ≤ x1.toInt → x1.toInt < b9 → lv9 v_rowsOf v_columnsOf v_shapeRows v_shapeColumns v_row v_column x1 → 0 ≤ x9.toInt → x9.toInt ≤ 64 → (64 - x9.toInt).toNat < n → wp (fX9_movesAll_94 N n x1 x2 x4 x5 x6 x7 x8 x9 v_rowsOf v_columnsOf v_shapeRows v_shapeColumns v_row v_column v_below v_face v_high v_to v_pileSize) (cu9 (fun (wv_shapeRows : List Int32) (wv_shapeColumns : List Int32) (wv_row : List Int32) (wv_column : List Int32) (wv_below : List Int32) (wv_face : List Int32) (wv_high : List Int32) (wv_to : List Int32) (wv_pileSize : List Int32) => wv_shapeRows.length = 6 ∧ wv_shapeColumns.length = 6 ∧ wv_row.length = 192 ∧ wv_column.length = 192 ∧ wv_below.length = 192 ∧ wv_face.length = 192 ∧ wv_high.length = 32 ∧ wv_to.length = 32 ∧ wv_pileSize.length = 64 ∧ fr u_row wv_row A B9 ∧ fr u_col wv_column A B9 ∧ fr u_sR wv_shapeRows a9 b9 ∧ fr u_sC wv_shapeColumns a9 b9 ∧ lv9 v_rowsOf v_columnsOf wv_shapeRows wv_shapeColumns wv_row wv_column x1)) := by
  intro n
  induction n with
  | zero =>
    intro x1 x2 x4 x5 x6 x7 x8 x9 v_rowsOf v_columnsOf v_shapeRows v_shapeColumns v_row v_column v_below v_face v_high v_to v_pileSize h_0 h_1 h_2 h_3 h_4 h_5 h_6 h_7 h_8 h_9 h_10 h_11 h_12 h_13 h_14 h_15 h_16 h_17 h_18 h_19 h_22 h_23 h_24 h_25 h_26 h_27 h_28 h_29 h_30 h_31 h_32 hm
    exact absurd hm (by omega)
  | succ n ih =>
    intro x1 x2 x4 x5 x6 x7 x8 x9 v_rowsOf v_columnsOf v_shapeRows v_shapeColumns v_row v_column v_below v_face v_high v_to v_pileSize h_0 h_1 h_2 h_3 h_4 h_5 h_6 h_7 h_8 h_9 h_10 h_11 h_12 h_13 h_14 h_15 h_16 h_17 h_18 h_19 h_22 h_23 h_24 h_25 h_26 h_27 h_28 h_29 h_30 h_31 h_32 hm
    have m3 := (i_fl (a := v_rowsOf) (b := v_columnsOf) (by omega) (by omega) (by omega) (by omega)).2
    refine wp_of (uf_X9_movesAll_94 _ _ _ _ _ _ _ _ _ _ _ _ _ _ _ _ _ _ _ _ _) ?_
    have n_2 : (64 : Int32).toInt = 64 := by decide
    refine wp_if (fun c_1 => ?_) (fun c_1 => ?_)
    ·
      have dc_1 := i_le c_1
      have n_3 : (0 : Int32).toInt = 0 := by decide
      exact sf_X9_movesAll_118_r (u_row := u_row) (u_col := u_col) (u_sR := u_sR) (u_sC := u_sC) (A := A) (B9 := B9) (a9 := a9) (b9 := b9) hN _ _ _ _ _ _ _ _ _ _ _ _ _ _ _ _ _ _ _ _ h_0 h_1 h_2 h_3 h_4 h_5 h_6 h_7 h_8 h_9 h_10 h_11 h_12 h_13 h_14 h_15 h_16 h_17 h_18 h_19 h_22 h_23 h_24 h_25 h_26 h_27 h_28 h_29 h_30 (by omega) (by omega) (by omega)
    ·
      have dc_1 := i_nle c_1
      refine wp_ck (i_inb (by omega) (by omega)) ?_
      have n_4 : (0 : Int32).toInt = 0 := by decide
      refine wp_nm (fun l_13 h_l_13 => ?_)
      have nl_l_13 : l_13.length = 64 := by rw [h_l_13, is_len]; assumption
      have n_5 : (1 : Int32).toInt = 1 := by decide
      refine wp_nm (fun y_14 h_y_14 => ?_)
      have e_6 := i_addE h_y_14.symm (by omega) (by omega)
      exact ih _ _ _ _ _ _ _ _ _ _ _ _ _ _ _ _ _ _ _ h_0 h_1 h_2 h_3 h_4 h_5 h_6 h_7 h_8 h_9 h_10 h_11 nl_l_13 h_13 h_14 h_15 h_16 h_17 h_18 h_19 h_22 h_23 h_24 h_25 h_26 h_27 h_28 h_29 h_30 (by omega) (by omega) (by omega)

theorem sf_X9_movesAll_94_rs {N : Nat} (hN : 700 ≤ N) {u_row : List Int32} {u_col : List Int32} {u_sR : List Int32} {u_sC : List Int32} {A : Int} {B9 : Int} {a9 : Int} {b9 : Int} : ∀ (n : Nat) (x1 : Int32) (x2 : Int32) (x4 : Int32) (x5 : Int32) (x6 : Int32) (x7 : Int32) (x8 : Int32) (x9 : Int32) (v_rowsOf : Int32) (v_columnsOf : Int32) (v_shapeRows : List Int32) (v_shapeColumns : List Int32) (v_row : List Int32) (v_column : List Int32) (v_below : List Int32) (v_face : List Int32) (v_high : List Int32) (v_to : List Int32) (v_pileSize : List Int32), 1 ≤ v_rowsOf.toInt → v_rowsOf.toInt ≤ 4 → 1 ≤ v_columnsOf.toInt → v_columnsOf.toInt ≤ 8 → v_shapeRows.length = 6 → v_shapeColumns.length = 6 → v_row.length = 192 → v_column.length = 192 → v_below.length = 192 → v_face.length = 192 → v_high.length = 32 → v_to.length = 32 → v_pileSize.length = 64 → 0 ≤ x1.toInt → x1.toInt ≤ 5 → (x4 = (0 : Int32)) → 1 ≤ x2.toInt → x2.toInt < x7.toInt → x7.toInt = (mm_ig v_shapeRows x1).toInt → ¬ (x5 = (0 : Int32)) → x5.toInt = 1 → x8.toInt = x2.toInt → fr u_row v_row A B9 → fr u_col v_column A B9 → fr u_sR v_shapeRows a9 b9 → fr u_sC v_shapeColumns a9 b9 → A ≤ 32 * x1.toInt → 32 * x1.toInt + 32 ≤ B9 → a9 ≤ x1.toInt → x1.toInt < b9 → lv9 v_rowsOf v_columnsOf v_shapeRows v_shapeColumns v_row v_column x1 → 0 ≤ x9.toInt → x9.toInt ≤ 64 → (64 - x9.toInt).toNat < n → wp (fX9_movesAll_94 N n x1 x2 x4 x5 x6 x7 x8 x9 v_rowsOf v_columnsOf v_shapeRows v_shapeColumns v_row v_column v_below v_face v_high v_to v_pileSize) (cu9 (fun (wv_shapeRows : List Int32) (wv_shapeColumns : List Int32) (wv_row : List Int32) (wv_column : List Int32) (wv_below : List Int32) (wv_face : List Int32) (wv_high : List Int32) (wv_to : List Int32) (wv_pileSize : List Int32) => wv_shapeRows.length = 6 ∧ wv_shapeColumns.length = 6 ∧ wv_row.length = 192 ∧ wv_column.length = 192 ∧ wv_below.length = 192 ∧ wv_face.length = 192 ∧ wv_high.length = 32 ∧ wv_to.length = 32 ∧ wv_pileSize.length = 64 ∧ fr u_row wv_row A B9 ∧ fr u_col wv_column A B9 ∧ fr u_sR wv_shapeRows a9 b9 ∧ fr u_sC wv_shapeColumns a9 b9 ∧ lv9 v_rowsOf v_columnsOf wv_shapeRows wv_shapeColumns wv_row wv_column x1)) :=
  fun n x1 x2 x4 x5 x6 x7 x8 x9 v_rowsOf v_columnsOf v_shapeRows v_shapeColumns v_row v_column v_below v_face v_high v_to v_pileSize h_0 h_1 h_2 h_3 h_4 h_5 h_6 h_7 h_8 h_9 h_10 h_11 h_12 h_13 h_14 h_15 h_16 h_17 h_18 h_19 h_20 h_21 h_22 h_23 h_24 h_25 h_26 h_27 h_28 h_29 h_30 h_31 h_32 hm => sf_X9_movesAll_94_r hN n x1 x2 x4 x5 x6 x7 x8 x9 v_rowsOf v_columnsOf v_shapeRows v_shapeColumns v_row v_column v_below v_face v_high v_to v_pileSize h_0 h_1 h_2 h_3 h_4 h_5 h_6 h_7 h_8 h_9 h_10 h_11 h_12 h_13 h_14 h_15 h_16 h_17 h_18 (Or.inl ⟨h_20, h_21⟩) h_22 h_23 h_24 h_25 h_26 h_27 h_28 h_29 h_30 h_31 h_32 hm
theorem sf_X9_movesAll_94_re {N : Nat} (hN : 700 ≤ N) {u_row : List Int32} {u_col : List Int32} {u_sR : List Int32} {u_sC : List Int32} {A : Int} {B9 : Int} {a9 : Int} {b9 : Int} : ∀ (n : Nat) (x1 : Int32) (x2 : Int32) (x4 : Int32) (x5 : Int32) (x6 : Int32) (x7 : Int32) (x8 : Int32) (x9 : Int32) (v_rowsOf : Int32) (v_columnsOf : Int32) (v_shapeRows : List Int32) (v_shapeColumns : List Int32) (v_row : List Int32) (v_column : List Int32) (v_below : List Int32) (v_face : List Int32) (v_high : List Int32) (v_to : List Int32) (v_pileSize : List Int32), 1 ≤ v_rowsOf.toInt → v_rowsOf.toInt ≤ 4 → 1 ≤ v_columnsOf.toInt → v_columnsOf.toInt ≤ 8 → v_shapeRows.length = 6 → v_shapeColumns.length = 6 → v_row.length = 192 → v_column.length = 192 → v_below.length = 192 → v_face.length = 192 → v_high.length = 32 → v_to.length = 32 → v_pileSize.length = 64 → 0 ≤ x1.toInt → x1.toInt ≤ 5 → (x4 = (0 : Int32)) → 1 ≤ x2.toInt → x2.toInt < x7.toInt → x7.toInt = (mm_ig v_shapeRows x1).toInt → (x5 = (0 : Int32)) → x5.toInt = 0 → x8.toInt = min 0 (2 * x2.toInt - x7.toInt) → fr u_row v_row A B9 → fr u_col v_column A B9 → fr u_sR v_shapeRows a9 b9 → fr u_sC v_shapeColumns a9 b9 → A ≤ 32 * x1.toInt → 32 * x1.toInt + 32 ≤ B9 → a9 ≤ x1.toInt → x1.toInt < b9 → lv9 v_rowsOf v_columnsOf v_shapeRows v_shapeColumns v_row v_column x1 → 0 ≤ x9.toInt → x9.toInt ≤ 64 → (64 - x9.toInt).toNat < n → wp (fX9_movesAll_94 N n x1 x2 x4 x5 x6 x7 x8 x9 v_rowsOf v_columnsOf v_shapeRows v_shapeColumns v_row v_column v_below v_face v_high v_to v_pileSize) (cu9 (fun (wv_shapeRows : List Int32) (wv_shapeColumns : List Int32) (wv_row : List Int32) (wv_column : List Int32) (wv_below : List Int32) (wv_face : List Int32) (wv_high : List Int32) (wv_to : List Int32) (wv_pileSize : List Int32) => wv_shapeRows.length = 6 ∧ wv_shapeColumns.length = 6 ∧ wv_row.length = 192 ∧ wv_column.length = 192 ∧ wv_below.length = 192 ∧ wv_face.length = 192 ∧ wv_high.length = 32 ∧ wv_to.length = 32 ∧ wv_pileSize.length = 64 ∧ fr u_row wv_row A B9 ∧ fr u_col wv_column A B9 ∧ fr u_sR wv_shapeRows a9 b9 ∧ fr u_sC wv_shapeColumns a9 b9 ∧ lv9 v_rowsOf v_columnsOf wv_shapeRows wv_shapeColumns wv_row wv_column x1)) :=
  fun n x1 x2 x4 x5 x6 x7 x8 x9 v_rowsOf v_columnsOf v_shapeRows v_shapeColumns v_row v_column v_below v_face v_high v_to v_pileSize h_0 h_1 h_2 h_3 h_4 h_5 h_6 h_7 h_8 h_9 h_10 h_11 h_12 h_13 h_14 h_15 h_16 h_17 h_18 h_19 h_20 h_21 h_22 h_23 h_24 h_25 h_26 h_27 h_28 h_29 h_30 h_31 h_32 hm => sf_X9_movesAll_94_r hN n x1 x2 x4 x5 x6 x7 x8 x9 v_rowsOf v_columnsOf v_shapeRows v_shapeColumns v_row v_column v_below v_face v_high v_to v_pileSize h_0 h_1 h_2 h_3 h_4 h_5 h_6 h_7 h_8 h_9 h_10 h_11 h_12 h_13 h_14 h_15 h_16 h_17 h_18 (Or.inr ⟨h_20, h_21⟩) h_22 h_23 h_24 h_25 h_26 h_27 h_28 h_29 h_30 h_31 h_32 hm
