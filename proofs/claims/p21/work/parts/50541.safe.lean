/-! safe -/
theorem uf_X9_movesAll_411 (N : Nat) (n : Nat) (x1 : Int32) (x2 : Int32) (x4 : Int32) (x7 : Int32) (x9 : Int32) (v_rowsOf : Int32) (v_columnsOf : Int32) (v_shapeRows : List Int32) (v_shapeColumns : List Int32) (v_row : List Int32) (v_column : List Int32) (v_below : List Int32) (v_face : List Int32) (v_high : List Int32) (v_to : List Int32) (v_pileSize : List Int32) : fX9_movesAll_411 N (n + 1) x1 x2 x4 x7 x9 v_rowsOf v_columnsOf v_shapeRows v_shapeColumns v_row v_column v_below v_face v_high v_to v_pileSize = 
    mm_bd1 (fX9_fields N v_rowsOf v_columnsOf) (fun (r_72 : Int32) =>
    if r_72 ≤ x9 then
    (if x2 ≤ (x7 - x2) then
    (fX9_movesAll_507 N x1 x4 (x7 - x2) v_rowsOf v_columnsOf v_shapeRows v_shapeColumns v_row v_column v_below v_face v_high v_to v_pileSize)
    else (fX9_movesAll_507 N x1 x4 x2 v_rowsOf v_columnsOf v_shapeRows v_shapeColumns v_row v_column v_below v_face v_high v_to v_pileSize))
    else (mm_ck (mm_inb x9 v_high.length) (mm_nm ((mm_ig v_high x9)) (fun (y_77 : Int32) =>
    mm_ck (mm_inb (((32 : Int32) * x1) + x9) v_below.length) (mm_nm (mm_is v_below (((32 : Int32) * x1) + x9) y_77) (fun (l_79 : List Int32) =>
    if x4 = 0 then
    (mm_ck (mm_inb x9 v_to.length) (mm_nm ((mm_ig v_to x9)) (fun (y_82 : Int32) =>
    mm_ck (mm_inb (((32 : Int32) * x1) + x9) v_row.length) (mm_nm (mm_is v_row (((32 : Int32) * x1) + x9) y_82) (fun (l_84 : List Int32) =>
    fX9_movesAll_485 N (fX9_movesAll_411 N n) x1 x2 x4 x7 x9 v_rowsOf v_columnsOf v_shapeRows v_shapeColumns l_84 v_column l_79 v_face v_high v_to v_pileSize)))))
    else (mm_ck (mm_inb x9 v_to.length) (mm_nm ((mm_ig v_to x9)) (fun (y_86 : Int32) =>
    mm_ck (mm_inb (((32 : Int32) * x1) + x9) v_column.length) (mm_nm (mm_is v_column (((32 : Int32) * x1) + x9) y_86) (fun (l_88 : List Int32) =>
    fX9_movesAll_485 N (fX9_movesAll_411 N n) x1 x2 x4 x7 x9 v_rowsOf v_columnsOf v_shapeRows v_shapeColumns v_row l_88 l_79 v_face v_high v_to v_pileSize))))))))))) := rfl

theorem uf_X9_movesAll_485 (N : Nat) (k_411 : Int32 → Int32 → Int32 → Int32 → Int32 → Int32 → Int32 → List Int32 → List Int32 → List Int32 → List Int32 → List Int32 → List Int32 → List Int32 → List Int32 → List Int32 → Option (List Int32 × List Int32 × List Int32 × List Int32 × List Int32 × List Int32 × List Int32 × List Int32 × List Int32)) (x1 : Int32) (x2 : Int32) (x4 : Int32) (x7 : Int32) (x9 : Int32) (v_rowsOf : Int32) (v_columnsOf : Int32) (v_shapeRows : List Int32) (v_shapeColumns : List Int32) (v_row : List Int32) (v_column : List Int32) (v_below : List Int32) (v_face : List Int32) (v_high : List Int32) (v_to : List Int32) (v_pileSize : List Int32) : fX9_movesAll_485 N k_411 x1 x2 x4 x7 x9 v_rowsOf v_columnsOf v_shapeRows v_shapeColumns v_row v_column v_below v_face v_high v_to v_pileSize = mm_nm (x9 + (1 : Int32)) (fun (y_89 : Int32) =>
    k_411 x1 x2 x4 x7 y_89 v_rowsOf v_columnsOf v_shapeRows v_shapeColumns v_row v_column v_below v_face v_high v_to v_pileSize) := rfl

theorem uf_X9_movesAll_507 (N : Nat) (x1 : Int32) (x4 : Int32) (s0 : Int32) (v_rowsOf : Int32) (v_columnsOf : Int32) (v_shapeRows : List Int32) (v_shapeColumns : List Int32) (v_row : List Int32) (v_column : List Int32) (v_below : List Int32) (v_face : List Int32) (v_high : List Int32) (v_to : List Int32) (v_pileSize : List Int32) : fX9_movesAll_507 N x1 x4 s0 v_rowsOf v_columnsOf v_shapeRows v_shapeColumns v_row v_column v_below v_face v_high v_to v_pileSize = if x4 = 0 then
    (mm_ck (mm_inb x1 v_shapeRows.length) (mm_nm (mm_is v_shapeRows x1 s0) (fun (l_92 : List Int32) =>
    some (l_92, v_shapeColumns, v_row, v_column, v_below, v_face, v_high, v_to, v_pileSize))))
    else (mm_ck (mm_inb x1 v_shapeColumns.length) (mm_nm (mm_is v_shapeColumns x1 s0) (fun (l_94 : List Int32) =>
    some (v_shapeRows, l_94, v_row, v_column, v_below, v_face, v_high, v_to, v_pileSize)))) := rfl

set_option maxHeartbeats 4000000 in
set_option maxRecDepth 20000 in
theorem sf_X9_movesAll_411_r {N : Nat} (hN : 700 ≤ N) {u_row : List Int32} {u_col : List Int32} {u_sR : List Int32} {u_sC : List Int32} {A : Int} {B9 : Int} {a9 : Int} {b9 : Int} {u_bel : List Int32} {u_fac : List Int32} : ∀ (n : Nat) (x1 : Int32) (x2 : Int32) (x4 : Int32) (x7 : Int32) (x9 : Int32) (v_rowsOf : Int32) (v_columnsOf : Int32) (v_shapeRows : List Int32) (v_shapeColumns : List Int32) (v_row : List Int32) (v_column : List Int32) (v_below : List Int32) (v_face : List Int32) (v_high : List Int32) (v_to : List Int32) (v_pileSize : List Int32), 1 ≤ v_rowsOf.toInt → v_rowsOf.toInt ≤ 4 → 1 ≤ v_columnsOf.toInt → v_columnsOf.toInt ≤ 8 → v_shapeRows.length = 6 → v_shapeColumns.length = 6 → v_row.length = 192 → v_column.length = 192 → v_below.length = 192 → v_face.length = 192 → v_high.length = 32 → v_to.length = 32 → v_pileSize.length = 64 → 0 ≤ x1.toInt → x1.toInt ≤ 5 → (x4 = (0 : Int32)) → 1 ≤ x2.toInt → x2.toInt < x7.toInt → x7.toInt = (mm_ig v_shapeRows x1).toInt → fr u_row v_row A B9 → fr u_col v_column A B9 → fr u_sR v_shapeRows a9 b9 → fr u_sC v_shapeColumns a9 b9 → A ≤ 32 * x1.toInt → 32 * x1.toInt + 32 ≤ B9 → a9 ≤ x1.toInt → x1.toInt < b9 → fr u_bel v_below A B9 → fr u_fac v_face A B9 → 1 ≤ (mm_ig v_shapeRows x1).toInt → (mm_ig v_shapeRows x1).toInt ≤ 4 → 1 ≤ (mm_ig v_shapeColumns x1).toInt → (mm_ig v_shapeColumns x1).toInt ≤ 8 → zn v_column (32 * x1.toInt) (32 * x1.toInt + v_rowsOf.toInt * v_columnsOf.toInt) 0 (mm_ig v_shapeColumns x1).toInt → zn v_to 0 (v_rowsOf.toInt * v_columnsOf.toInt) 0 (max x2.toInt (x7.toInt - x2.toInt)) → zn v_row (32 * x1.toInt) (32 * x1.toInt + x9.toInt) 0 (max x2.toInt (x7.toInt - x2.toInt)) → 0 ≤ x9.toInt → x9.toInt ≤ v_rowsOf.toInt * v_columnsOf.toInt → (v_rowsOf.toInt * v_columnsOf.toInt - x9.toInt).toNat < n → wp (fX9_movesAll_411 N n x1 x2 x4 x7 x9 v_rowsOf v_columnsOf v_shapeRows v_shapeColumns v_row v_column v_below v_face v_high v_to v_pileSize) (cu9 (fun (wv_shapeRows : List Int32) (wv_shapeColumns : List Int32) (wv_row : List Int32) (wv_column : List Int32) (wv_below : List Int32) (wv_face : List Int32) (wv_high : List Int32) (wv_to : List Int32) (wv_pileSize : List Int32) => wv_shapeRows.length = 6 ∧ wv_shapeColumns.length = 6 ∧ wv_row.length = 192 ∧ wv_column.length = 192 ∧ wv_below.length = 192 ∧ wv_face.length = 192 ∧ wv_high.length = 32 ∧ wv_to.length = 32 ∧ wv_pileSize.length = 64 ∧ fr u_row wv_row A B9 ∧ fr u_col wv_column A B9 ∧ fr u_sR wv_shapeRows a9 b9 ∧ fr u_sC wv_shapeColumns a9 b9 ∧ fr u_bel wv_below A B9 ∧ fr u_fac wv_face A B9 ∧ lv9 v_rowsOf v_columnsOf wv_shapeRows wv_shapeColumns wv_row wv_column x1)) := by
  intro n
  induction n with
  | zero =>
    intro x1 x2 x4 x7 x9 v_rowsOf v_columnsOf v_shapeRows v_shapeColumns v_row v_column v_below v_face v_high v_to v_pileSize h_0 h_1 h_2 h_3 h_4 h_5 h_6 h_7 h_8 h_9 h_10 h_11 h_12 h_13 h_14 h_15 h_16 h_17 h_18 h_19 h_20 h_21 h_22 h_23 h_24 h_25 h_26 h_27 h_28 h_29 h_30 h_31 h_32 h_33 h_34 h_35 h_36 h_37 hm
    exact absurd hm (by omega)
  | succ n ih =>
    intro x1 x2 x4 x7 x9 v_rowsOf v_columnsOf v_shapeRows v_shapeColumns v_row v_column v_below v_face v_high v_to v_pileSize h_0 h_1 h_2 h_3 h_4 h_5 h_6 h_7 h_8 h_9 h_10 h_11 h_12 h_13 h_14 h_15 h_16 h_17 h_18 h_19 h_20 h_21 h_22 h_23 h_24 h_25 h_26 h_27 h_28 h_29 h_30 h_31 h_32 h_33 h_34 h_35 h_36 h_37 hm
    have m3 := (i_fl (a := v_rowsOf) (b := v_columnsOf) (by omega) (by omega) (by omega) (by omega)).2
    refine wp_of (uf_X9_movesAll_411 _ _ _ _ _ _ _ _ _ _ _ _ _ _ _ _ _ _) ?_
    refine wp_bd1 (sf_X9_fields hN h_0 h_1 h_2 h_3) (fun r_72 ⟨q_1, q_2, q_3⟩ => ?_)
    refine wp_if (fun c_4 => ?_) (fun c_4 => ?_)
    ·
      have dc_4 := i_le c_4
      generalize hz_z : (x7 - x2) = z
      have e_6 := i_subE hz_z (by omega) (by omega)
      refine wp_if (fun c_5 => ?_) (fun c_5 => ?_)
      ·
        have dc_5 := i_le c_5
        refine wp_of (uf_X9_movesAll_507 _ _ _ _ _ _ _ _ _ _ _ _ _ _ _) ?_
        have n_8 : (0 : Int32).toInt = 0 := by decide
        refine wp_ifp h_15 ?_
        refine wp_ck (i_inb (by omega) (by omega)) ?_
        refine wp_nm (fun l_92 h_l_92 => ?_)
        have nl_l_92 : l_92.length = 6 := by rw [h_l_92, is_len]; assumption
        have w_l_92 : (mm_ig l_92 x1).toInt = (z).toInt := by rw [h_l_92, ig_is _ _ _ _ (by omega) (by omega) (by omega), if_pos rfl]
        exact wp_so9 ⟨nl_l_92, h_5, h_6, h_7, h_8, h_9, h_10, h_11, h_12, h_19, h_20, (by first | assumption | exact fr_refl _ _ _ | (rw [h_l_92]; exact fr_set (by first | assumption | exact fr_refl _ _ _) (by omega) (by omega) (by omega))), h_22, h_27, h_28, (by first | assumption | (rw [h_l_92]; exact lv9_setR (by assumption) (by omega) (by omega) (by omega) (by omega) (by omega) (by omega) (by first | assumption | exact zn_sub h_35 (by omega) (by omega) (by omega) (by omega) | exact zn_nil (by omega) | (exfalso; omega)) (by first | assumption | exact zn_sub h_33 (by omega) (by omega) (by omega) (by omega) | exact zn_nil (by omega) | (exfalso; omega))) | exact (show lvI _ _ _ _ _ _ _ by assumption) _ (by omega) | exact lv9_fr (by assumption) (by assumption) (by assumption) (by assumption) (by assumption) (by omega) (by omega) (by omega) (by omega) (by omega) | exact ⟨by omega, by omega, by omega, by omega, (by first | assumption | exact zn_sub h_35 (by omega) (by omega) (by omega) (by omega) | exact zn_nil (by omega) | (exfalso; omega)), (by first | assumption | exact zn_sub h_33 (by omega) (by omega) (by omega) (by omega) | exact zn_nil (by omega) | (exfalso; omega))⟩)⟩
      ·
        have dc_5 := i_nle c_5
        refine wp_of (uf_X9_movesAll_507 _ _ _ _ _ _ _ _ _ _ _ _ _ _ _) ?_
        have n_10 : (0 : Int32).toInt = 0 := by decide
        refine wp_ifp h_15 ?_
        refine wp_ck (i_inb (by omega) (by omega)) ?_
        refine wp_nm (fun l_92__11 h_l_92__11 => ?_)
        have nl_l_92__11 : l_92__11.length = 6 := by rw [h_l_92__11, is_len]; assumption
        have w_l_92__11 : (mm_ig l_92__11 x1).toInt = (x2).toInt := by rw [h_l_92__11, ig_is _ _ _ _ (by omega) (by omega) (by omega), if_pos rfl]
        exact wp_so9 ⟨nl_l_92__11, h_5, h_6, h_7, h_8, h_9, h_10, h_11, h_12, h_19, h_20, (by first | assumption | exact fr_refl _ _ _ | (rw [h_l_92__11]; exact fr_set (by first | assumption | exact fr_refl _ _ _) (by omega) (by omega) (by omega))), h_22, h_27, h_28, (by first | assumption | (rw [h_l_92__11]; exact lv9_setR (by assumption) (by omega) (by omega) (by omega) (by omega) (by omega) (by omega) (by first | assumption | exact zn_sub h_35 (by omega) (by omega) (by omega) (by omega) | exact zn_nil (by omega) | (exfalso; omega)) (by first | assumption | exact zn_sub h_33 (by omega) (by omega) (by omega) (by omega) | exact zn_nil (by omega) | (exfalso; omega))) | exact (show lvI _ _ _ _ _ _ _ by assumption) _ (by omega) | exact lv9_fr (by assumption) (by assumption) (by assumption) (by assumption) (by assumption) (by omega) (by omega) (by omega) (by omega) (by omega) | exact ⟨by omega, by omega, by omega, by omega, (by first | assumption | exact zn_sub h_35 (by omega) (by omega) (by omega) (by omega) | exact zn_nil (by omega) | (exfalso; omega)), (by first | assumption | exact zn_sub h_33 (by omega) (by omega) (by omega) (by omega) | exact zn_nil (by omega) | (exfalso; omega))⟩)⟩
    ·
      have dc_4 := i_nle c_4
      refine wp_ck (i_inb (by omega) (by omega)) ?_
      refine wp_nm (fun y_77 h_y_77 => ?_)
      have t_y_77 : y_77.toInt = ((mm_ig v_high x9)).toInt := by rw [h_y_77]
      have n_12 : (32 : Int32).toInt = 32 := by decide
      generalize hz_z__13 : ((32 : Int32) * x1) = z__13
      have e_14 := i_mulLE (c := 32) (by decide) hz_z__13 (by omega) (by omega)
      generalize hz_z__15 : (z__13 + x9) = z__15
      have e_16 := i_addE hz_z__15 (by omega) (by omega)
      refine wp_ck (i_inb (by omega) (by omega)) ?_
      refine wp_nm (fun l_79 h_l_79 => ?_)
      have nl_l_79 : l_79.length = 192 := by rw [h_l_79, is_len]; assumption
      have n_18 : (0 : Int32).toInt = 0 := by decide
      refine wp_ifp h_15 ?_
      refine wp_ck (i_inb (by omega) (by omega)) ?_
      obtain ⟨e_19, e1_19⟩ := zn_get h_34 (i := x9) (by omega) (by omega) (by omega) (by omega)
      refine wp_nm (fun y_82 h_y_82 => ?_)
      have t_y_82 : y_82.toInt = ((mm_ig v_to x9)).toInt := by rw [h_y_82]
      refine wp_ck (i_inb (by omega) (by omega)) ?_
      refine wp_nm (fun l_84 h_l_84 => ?_)
      have nl_l_84 : l_84.length = 192 := by rw [h_l_84, is_len]; assumption
      refine wp_of (uf_X9_movesAll_485 _ _ _ _ _ _ _ _ _ _ _ _ _ _ _ _ _ _) ?_
      have n_21 : (1 : Int32).toInt = 1 := by decide
      refine wp_nm (fun y_89 h_y_89 => ?_)
      have e_22 := i_addE h_y_89.symm (by omega) (by omega)
      exact ih _ _ _ _ _ _ _ _ _ _ _ _ _ _ _ _ h_0 h_1 h_2 h_3 h_4 h_5 nl_l_84 h_7 nl_l_79 h_9 h_10 h_11 h_12 h_13 h_14 h_15 h_16 h_17 h_18 (by first | assumption | exact fr_refl _ _ _ | (rw [h_l_84]; exact fr_set (by first | assumption | exact fr_refl _ _ _) (by omega) (by omega) (by omega))) h_20 h_21 h_22 h_23 h_24 h_25 h_26 (by first | assumption | exact fr_refl _ _ _ | (rw [h_l_79]; exact fr_set (by first | assumption | exact fr_refl _ _ _) (by omega) (by omega) (by omega))) h_28 h_29 h_30 h_31 h_32 h_33 h_34 (by first | (rw [h_l_84]; exact zn_ext h_35 (by omega) (by omega) (by omega) (by omega) (by omega)) | assumption | exact zn_nil (by omega) | (rw [h_l_84]; first | exact zn_out h_35 (by omega) (by omega) | exact zn_in h_35 (by omega) (by omega) (by omega) | exact zn_ext h_35 (by omega) (by omega) (by omega) (by omega) (by omega) | exact zn_out (zn_sub h_35 (by omega) (by omega) (by omega) (by omega)) (by omega) (by omega)) | (exfalso; omega)) (by omega) (by omega) (by omega)

theorem uf_X9_movesAll_174 (N : Nat) (n : Nat) (x1 : Int32) (x2 : Int32) (x4 : Int32) (x5 : Int32) (x6 : Int32) (x7 : Int32) (x8 : Int32) (x9 : Int32) (v_rowsOf : Int32) (v_columnsOf : Int32) (v_shapeRows : List Int32) (v_shapeColumns : List Int32) (v_row : List Int32) (v_column : List Int32) (v_below : List Int32) (v_face : List Int32) (v_high : List Int32) (v_to : List Int32) (v_pileSize : List Int32) : fX9_movesAll_174 N (n + 1) x1 x2 x4 x5 x6 x7 x8 x9 v_rowsOf v_columnsOf v_shapeRows v_shapeColumns v_row v_column v_below v_face v_high v_to v_pileSize = 
    mm_bd1 (fX9_fields N v_rowsOf v_columnsOf) (fun (r_30 : Int32) =>
    if r_30 ≤ x9 then
    (fX9_movesAll_411 N N x1 x2 x4 x7 (0 : Int32) v_rowsOf v_columnsOf v_shapeRows v_shapeColumns v_row v_column v_below v_face v_high v_to v_pileSize)
    else (mm_nm ((((32 : Int32) * x1) + x9)) (fun (y_33 : Int32) =>
    mm_bd1 (fX9_placeOf N x1 x9 x4 v_row v_column) (fun (r_34 : Int32) =>
    if x4 = 0 then
    (fX9_movesAll_217 N (fX9_movesAll_174 N n) x1 x2 x4 x5 x6 x7 x8 x9 y_33 r_34 (1 : Int32) x9 x1 v_rowsOf v_columnsOf v_shapeRows v_shapeColumns v_row v_column v_below v_face v_high v_to v_pileSize)
    else (fX9_movesAll_217 N (fX9_movesAll_174 N n) x1 x2 x4 x5 x6 x7 x8 x9 y_33 r_34 (0 : Int32) x9 x1 v_rowsOf v_columnsOf v_shapeRows v_shapeColumns v_row v_column v_below v_face v_high v_to v_pileSize))))) := rfl

theorem uf_X9_movesAll_217 (N : Nat) (k_174 : Int32 → Int32 → Int32 → Int32 → Int32 → Int32 → Int32 → Int32 → Int32 → Int32 → List Int32 → List Int32 → List Int32 → List Int32 → List Int32 → List Int32 → List Int32 → List Int32 → List Int32 → Option (List Int32 × List Int32 × List Int32 × List Int32 × List Int32 × List Int32 × List Int32 × List Int32 × List Int32)) (x1 : Int32) (x2 : Int32) (x4 : Int32) (x5 : Int32) (x6 : Int32) (x7 : Int32) (x8 : Int32) (x9 : Int32) (x10 : Int32) (x11 : Int32) (s0 : Int32) (s1 : Int32) (s2 : Int32) (v_rowsOf : Int32) (v_columnsOf : Int32) (v_shapeRows : List Int32) (v_shapeColumns : List Int32) (v_row : List Int32) (v_column : List Int32) (v_below : List Int32) (v_face : List Int32) (v_high : List Int32) (v_to : List Int32) (v_pileSize : List Int32) : fX9_movesAll_217 N k_174 x1 x2 x4 x5 x6 x7 x8 x9 x10 x11 s0 s1 s2 v_rowsOf v_columnsOf v_shapeRows v_shapeColumns v_row v_column v_below v_face v_high v_to v_pileSize = mm_bd1 (fX9_placeOf N s2 s1 s0 v_row v_column) (fun (r_37 : Int32) =>
    mm_nm (((((2 : Int32) * x2) - (1 : Int32)) - x11)) (fun (y_39 : Int32) =>
    mm_bd1 (fX9_within N ((y_39).toInt64) (0 : Int64) ((x7 - (1 : Int32)).toInt64)) (fun (r_40 : Bool) =>
    if r_40 = false then
    (fX9_movesAll_263 N k_174 x1 x2 x4 x5 x6 x7 x8 x9 x10 x11 r_37 y_39 (0 : Int32) v_rowsOf v_columnsOf v_shapeRows v_shapeColumns v_row v_column v_below v_face v_high v_to v_pileSize)
    else (mm_bd1 (fX9_pileAt N y_39 r_37) (fun (r_43 : Int32) =>
    mm_ck (mm_inb r_43 v_pileSize.length) (fX9_movesAll_263 N k_174 x1 x2 x4 x5 x6 x7 x8 x9 x10 x11 r_37 y_39 (mm_ig v_pileSize r_43) v_rowsOf v_columnsOf v_shapeRows v_shapeColumns v_row v_column v_below v_face v_high v_to v_pileSize)))))) := rfl

theorem uf_X9_movesAll_263 (N : Nat) (k_174 : Int32 → Int32 → Int32 → Int32 → Int32 → Int32 → Int32 → Int32 → Int32 → Int32 → List Int32 → List Int32 → List Int32 → List Int32 → List Int32 → List Int32 → List Int32 → List Int32 → List Int32 → Option (List Int32 × List Int32 × List Int32 × List Int32 × List Int32 × List Int32 × List Int32 × List Int32 × List Int32)) (x1 : Int32) (x2 : Int32) (x4 : Int32) (x5 : Int32) (x6 : Int32) (x7 : Int32) (x8 : Int32) (x9 : Int32) (x10 : Int32) (x11 : Int32) (x12 : Int32) (x13 : Int32) (s0 : Int32) (v_rowsOf : Int32) (v_columnsOf : Int32) (v_shapeRows : List Int32) (v_shapeColumns : List Int32) (v_row : List Int32) (v_column : List Int32) (v_below : List Int32) (v_face : List Int32) (v_high : List Int32) (v_to : List Int32) (v_pileSize : List Int32) : fX9_movesAll_263 N k_174 x1 x2 x4 x5 x6 x7 x8 x9 x10 x11 x12 x13 s0 v_rowsOf v_columnsOf v_shapeRows v_shapeColumns v_row v_column v_below v_face v_high v_to v_pileSize = if x2 ≤ x11 then
    (fX9_movesAll_276 N k_174 x1 x2 x4 x5 x6 x7 x8 x9 x10 x11 x12 x13 s0 (0 : Int32) v_rowsOf v_columnsOf v_shapeRows v_shapeColumns v_row v_column v_below v_face v_high v_to v_pileSize)
    else (fX9_movesAll_276 N k_174 x1 x2 x4 x5 x6 x7 x8 x9 x10 x11 x12 x13 s0 (1 : Int32) v_rowsOf v_columnsOf v_shapeRows v_shapeColumns v_row v_column v_below v_face v_high v_to v_pileSize) := rfl

theorem uf_X9_movesAll_276 (N : Nat) (k_174 : Int32 → Int32 → Int32 → Int32 → Int32 → Int32 → Int32 → Int32 → Int32 → Int32 → List Int32 → List Int32 → List Int32 → List Int32 → List Int32 → List Int32 → List Int32 → List Int32 → List Int32 → Option (List Int32 × List Int32 × List Int32 × List Int32 × List Int32 × List Int32 × List Int32 × List Int32 × List Int32)) (x1 : Int32) (x2 : Int32) (x4 : Int32) (x5 : Int32) (x6 : Int32) (x7 : Int32) (x8 : Int32) (x9 : Int32) (x10 : Int32) (x11 : Int32) (x12 : Int32) (x13 : Int32) (x14 : Int32) (s0 : Int32) (v_rowsOf : Int32) (v_columnsOf : Int32) (v_shapeRows : List Int32) (v_shapeColumns : List Int32) (v_row : List Int32) (v_column : List Int32) (v_below : List Int32) (v_face : List Int32) (v_high : List Int32) (v_to : List Int32) (v_pileSize : List Int32) : fX9_movesAll_276 N k_174 x1 x2 x4 x5 x6 x7 x8 x9 x10 x11 x12 x13 x14 s0 v_rowsOf v_columnsOf v_shapeRows v_shapeColumns v_row v_column v_below v_face v_high v_to v_pileSize = if s0 = x5 then
    (mm_bd1 (fX9_pileAt N x11 x12) (fun (r_51 : Int32) =>
    mm_ck (mm_inb r_51 v_pileSize.length) (mm_ck (mm_inb x10 v_below.length) (mm_nm ((((mm_ig v_pileSize r_51) - (1 : Int32)) - (mm_ig v_below x10))) (fun (y_55 : Int32) =>
    if x6 = 0 then
    (fX9_movesAll_326 N k_174 x1 x2 x4 x5 x6 x7 x8 x9 x10 x13 y_55 x9 v_rowsOf v_columnsOf v_shapeRows v_shapeColumns v_row v_column v_below v_face v_high v_to v_pileSize)
    else (fX9_movesAll_326 N k_174 x1 x2 x4 x5 x6 x7 x8 x9 x10 x13 (y_55 + x14) x9 v_rowsOf v_columnsOf v_shapeRows v_shapeColumns v_row v_column v_below v_face v_high v_to v_pileSize))))))
    else (if x6 = 0 then
    (mm_ck (mm_inb x10 v_below.length) (fX9_movesAll_389 N k_174 x1 x2 x4 x5 x6 x7 x8 x9 x11 ((mm_ig v_below x10) + x14) x9 v_rowsOf v_columnsOf v_shapeRows v_shapeColumns v_row v_column v_below v_face v_high v_to v_pileSize))
    else (mm_ck (mm_inb x10 v_below.length) (fX9_movesAll_389 N k_174 x1 x2 x4 x5 x6 x7 x8 x9 x11 (mm_ig v_below x10) x9 v_rowsOf v_columnsOf v_shapeRows v_shapeColumns v_row v_column v_below v_face v_high v_to v_pileSize))) := rfl

theorem uf_X9_movesAll_326 (N : Nat) (k_174 : Int32 → Int32 → Int32 → Int32 → Int32 → Int32 → Int32 → Int32 → Int32 → Int32 → List Int32 → List Int32 → List Int32 → List Int32 → List Int32 → List Int32 → List Int32 → List Int32 → List Int32 → Option (List Int32 × List Int32 × List Int32 × List Int32 × List Int32 × List Int32 × List Int32 × List Int32 × List Int32)) (x1 : Int32) (x2 : Int32) (x4 : Int32) (x5 : Int32) (x6 : Int32) (x7 : Int32) (x8 : Int32) (x9 : Int32) (x10 : Int32) (x13 : Int32) (s0 : Int32) (s1 : Int32) (v_rowsOf : Int32) (v_columnsOf : Int32) (v_shapeRows : List Int32) (v_shapeColumns : List Int32) (v_row : List Int32) (v_column : List Int32) (v_below : List Int32) (v_face : List Int32) (v_high : List Int32) (v_to : List Int32) (v_pileSize : List Int32) : fX9_movesAll_326 N k_174 x1 x2 x4 x5 x6 x7 x8 x9 x10 x13 s0 s1 v_rowsOf v_columnsOf v_shapeRows v_shapeColumns v_row v_column v_below v_face v_high v_to v_pileSize = mm_ck (mm_inb s1 v_high.length) (mm_nm (mm_is v_high s1 s0) (fun (l_58 : List Int32) =>
    mm_ck (mm_inb x10 v_face.length) (mm_nm (((1 : Int32) - (mm_ig v_face x10))) (fun (y_60 : Int32) =>
    mm_ck (mm_inb x10 v_face.length) (mm_nm (mm_is v_face x10 y_60) (fun (l_62 : List Int32) =>
    mm_nm ((x13 - x8)) (fun (y_63 : Int32) =>
    mm_ck (mm_inb x9 v_to.length) (mm_nm (mm_is v_to x9 y_63) (fun (l_65 : List Int32) =>
    fX9_movesAll_402 N k_174 x1 x2 x4 x5 x6 x7 x8 x9 v_rowsOf v_columnsOf v_shapeRows v_shapeColumns v_row v_column v_below l_62 l_58 l_65 v_pileSize))))))))) := rfl

theorem uf_X9_movesAll_389 (N : Nat) (k_174 : Int32 → Int32 → Int32 → Int32 → Int32 → Int32 → Int32 → Int32 → Int32 → Int32 → List Int32 → List Int32 → List Int32 → List Int32 → List Int32 → List Int32 → List Int32 → List Int32 → List Int32 → Option (List Int32 × List Int32 × List Int32 × List Int32 × List Int32 × List Int32 × List Int32 × List Int32 × List Int32)) (x1 : Int32) (x2 : Int32) (x4 : Int32) (x5 : Int32) (x6 : Int32) (x7 : Int32) (x8 : Int32) (x9 : Int32) (x11 : Int32) (s0 : Int32) (s1 : Int32) (v_rowsOf : Int32) (v_columnsOf : Int32) (v_shapeRows : List Int32) (v_shapeColumns : List Int32) (v_row : List Int32) (v_column : List Int32) (v_below : List Int32) (v_face : List Int32) (v_high : List Int32) (v_to : List Int32) (v_pileSize : List Int32) : fX9_movesAll_389 N k_174 x1 x2 x4 x5 x6 x7 x8 x9 x11 s0 s1 v_rowsOf v_columnsOf v_shapeRows v_shapeColumns v_row v_column v_below v_face v_high v_to v_pileSize = mm_ck (mm_inb s1 v_high.length) (mm_nm (mm_is v_high s1 s0) (fun (l_68 : List Int32) =>
    mm_nm ((x11 - x8)) (fun (y_69 : Int32) =>
    mm_ck (mm_inb x9 v_to.length) (mm_nm (mm_is v_to x9 y_69) (fun (l_71 : List Int32) =>
    fX9_movesAll_402 N k_174 x1 x2 x4 x5 x6 x7 x8 x9 v_rowsOf v_columnsOf v_shapeRows v_shapeColumns v_row v_column v_below v_face l_68 l_71 v_pileSize))))) := rfl

theorem uf_X9_movesAll_402 (N : Nat) (k_174 : Int32 → Int32 → Int32 → Int32 → Int32 → Int32 → Int32 → Int32 → Int32 → Int32 → List Int32 → List Int32 → List Int32 → List Int32 → List Int32 → List Int32 → List Int32 → List Int32 → List Int32 → Option (List Int32 × List Int32 × List Int32 × List Int32 × List Int32 × List Int32 × List Int32 × List Int32 × List Int32)) (x1 : Int32) (x2 : Int32) (x4 : Int32) (x5 : Int32) (x6 : Int32) (x7 : Int32) (x8 : Int32) (x9 : Int32) (v_rowsOf : Int32) (v_columnsOf : Int32) (v_shapeRows : List Int32) (v_shapeColumns : List Int32) (v_row : List Int32) (v_column : List Int32) (v_below : List Int32) (v_face : List Int32) (v_high : List Int32) (v_to : List Int32) (v_pileSize : List Int32) : fX9_movesAll_402 N k_174 x1 x2 x4 x5 x6 x7 x8 x9 v_rowsOf v_columnsOf v_shapeRows v_shapeColumns v_row v_column v_below v_face v_high v_to v_pileSize = mm_nm (x9 + (1 : Int32)) (fun (y_66 : Int32) =>
    k_174 x1 x2 x4 x5 x6 x7 x8 y_66 v_rowsOf v_columnsOf v_shapeRows v_shapeColumns v_row v_column v_below v_face v_high v_to v_pileSize) := rfl

theorem uf_X9_pileAt (N : Nat) (x0 : Int32) (x1 : Int32) : fX9_pileAt N x0 x1 = some ((((8 : Int32) * x1) + x0)) := rfl

set_option maxHeartbeats 4000000 in
set_option maxRecDepth 20000 in
theorem sf_X9_movesAll_174_r {N : Nat} (hN : 700 ≤ N) {u_row : List Int32} {u_col : List Int32} {u_sR : List Int32} {u_sC : List Int32} {A : Int} {B9 : Int} {a9 : Int} {b9 : Int} {u_bel : List Int32} {u_fac : List Int32} : ∀ (n : Nat) (x1 : Int32) (x2 : Int32) (x4 : Int32) (x5 : Int32) (x6 : Int32) (x7 : Int32) (x8 : Int32) (x9 : Int32) (v_rowsOf : Int32) (v_columnsOf : Int32) (v_shapeRows : List Int32) (v_shapeColumns : List Int32) (v_row : List Int32) (v_column : List Int32) (v_below : List Int32) (v_face : List Int32) (v_high : List Int32) (v_to : List Int32) (v_pileSize : List Int32), 1 ≤ v_rowsOf.toInt → v_rowsOf.toInt ≤ 4 → 1 ≤ v_columnsOf.toInt → v_columnsOf.toInt ≤ 8 → v_shapeRows.length = 6 → v_shapeColumns.length = 6 → v_row.length = 192 → v_column.length = 192 → v_below.length = 192 → v_face.length = 192 → v_high.length = 32 → v_to.length = 32 → v_pileSize.length = 64 → 0 ≤ x1.toInt → x1.toInt ≤ 5 → (x4 = (0 : Int32)) → 1 ≤ x2.toInt → x2.toInt < x7.toInt → x7.toInt = (mm_ig v_shapeRows x1).toInt → (x5.toInt = 1 ∧ x8.toInt = x2.toInt) ∨ (x5.toInt = 0 ∧ x8.toInt = min 0 (2 * x2.toInt - x7.toInt)) → fr u_row v_row A B9 → fr u_col v_column A B9 → fr u_sR v_shapeRows a9 b9 → fr u_sC v_shapeColumns a9 b9 → A ≤ 32 * x1.toInt → 32 * x1.toInt + 32 ≤ B9 → a9 ≤ x1.toInt → x1.toInt < b9 → fr u_bel v_below A B9 → fr u_fac v_face A B9 → lv9 v_rowsOf v_columnsOf v_shapeRows v_shapeColumns v_row v_column x1 → 0 ≤ x9.toInt → x9.toInt ≤ v_rowsOf.toInt * v_columnsOf.toInt → zn v_to 0 x9.toInt 0 (max x2.toInt (x7.toInt - x2.toInt)) → (v_rowsOf.toInt * v_columnsOf.toInt - x9.toInt).toNat < n → wp (fX9_movesAll_174 N n x1 x2 x4 x5 x6 x7 x8 x9 v_rowsOf v_columnsOf v_shapeRows v_shapeColumns v_row v_column v_below v_face v_high v_to v_pileSize) (cu9 (fun (wv_shapeRows : List Int32) (wv_shapeColumns : List Int32) (wv_row : List Int32) (wv_column : List Int32) (wv_below : List Int32) (wv_face : List Int32) (wv_high : List Int32) (wv_to : List Int32) (wv_pileSize : List Int32) => wv_shapeRows.length = 6 ∧ wv_shapeColumns.length = 6 ∧ wv_row.length = 192 ∧ wv_column.length = 192 ∧ wv_below.length = 192 ∧ wv_face.length = 192 ∧ wv_high.length = 32 ∧ wv_to.length = 32 ∧ wv_pileSize.length = 64 ∧ fr u_row wv_row A B9 ∧ fr u_col wv_column A B9 ∧ fr u_sR wv_shapeRows a9 b9 ∧ fr u_sC wv_shapeColumns a9 b9 ∧ fr u_bel wv_below A B9 ∧ fr u_fac wv_face A B9 ∧ lv9 v_rowsOf v_columnsOf wv_shapeRows wv_shapeColumns wv_row wv_column x1)) := by
  intro n
  induction n with
  | zero =>
    intro x1 x2 x4 x5 x6 x7 x8 x9 v_rowsOf v_columnsOf v_shapeRows v_shapeColumns v_row v_column v_below v_face v_high v_to v_pileSize h_0 h_1 h_2 h_3 h_4 h_5 h_6 h_7 h_8 h_9 h_10 h_11 h_12 h_13 h_14 h_15 h_16 h_17 h_18 h_19 h_22 h_23 h_24 h_25 h_26 h_27 h_28 h_29 h_30 h_31 h_32 h_33 h_34 h_35 hm
    exact absurd hm (by omega)
  | succ n ih =>
    intro x1 x2 x4 x5 x6 x7 x8 x9 v_rowsOf v_columnsOf v_shapeRows v_shapeColumns v_row v_column v_below v_face v_high v_to v_pileSize h_0 h_1 h_2 h_3 h_4 h_5 h_6 h_7 h_8 h_9 h_10 h_11 h_12 h_13 h_14 h_15 h_16 h_17 h_18 h_19 h_22 h_23 h_24 h_25 h_26 h_27 h_28 h_29 h_30 h_31 h_32 h_33 h_34 h_35 hm
    have m3 := (i_fl (a := v_rowsOf) (b := v_columnsOf) (by omega) (by omega) (by omega) (by omega)).2
    obtain ⟨l1, l2, l3, l4, l5, l6⟩ := id (show lv9 v_rowsOf v_columnsOf v_shapeRows v_shapeColumns v_row v_column x1 by assumption)
    refine wp_of (uf_X9_movesAll_174 _ _ _ _ _ _ _ _ _ _ _ _ _ _ _ _ _ _ _ _ _) ?_
    refine wp_bd1 (sf_X9_fields hN h_0 h_1 h_2 h_3) (fun r_30 ⟨q_1, q_2, q_3⟩ => ?_)
    refine wp_if (fun c_4 => ?_) (fun c_4 => ?_)
    ·
      have dc_4 := i_le c_4
      have n_5 : (0 : Int32).toInt = 0 := by decide
      exact sf_X9_movesAll_411_r (u_row := u_row) (u_col := u_col) (u_sR := u_sR) (u_sC := u_sC) (A := A) (B9 := B9) (a9 := a9) (b9 := b9) (u_bel := u_bel) (u_fac := u_fac) hN _ _ _ _ _ _ _ _ _ _ _ _ _ _ _ _ _ h_0 h_1 h_2 h_3 h_4 h_5 h_6 h_7 h_8 h_9 h_10 h_11 h_12 h_13 h_14 h_15 h_16 h_17 h_18 h_22 h_23 h_24 h_25 h_26 h_27 h_28 h_29 h_30 h_31 (by omega) (by omega) (by omega) (by omega) (by first | assumption | exact zn_sub l6 (by omega) (by omega) (by omega) (by omega) | exact zn_nil (by omega) | (exfalso; omega)) (by first | assumption | exact zn_sub h_35 (by omega) (by omega) (by omega) (by omega) | exact zn_nil (by omega) | (exfalso; omega)) (by first | assumption | exact zn_nil (by omega) | exact zn_sub l5 (by omega) (by omega) (by omega) (by omega) | (exfalso; omega)) (by omega) (by omega) (by omega)
    ·
      have dc_4 := i_nle c_4
      have n_6 : (32 : Int32).toInt = 32 := by decide
      generalize hz_z : ((32 : Int32) * x1) = z
      have e_7 := i_mulLE (c := 32) (by decide) hz_z (by omega) (by omega)
      refine wp_nm (fun y_33 h_y_33 => ?_)
      have e_8 := i_addE h_y_33.symm (by omega) (by omega)
      refine wp_in1 ?_
      refine wp_of (uf_X9_placeOf _ _ _ _ _ _) ?_
      have n_10 : (0 : Int32).toInt = 0 := by decide
      refine wp_ifp h_15 ?_
      generalize hz_z__11 : ((32 : Int32) * x1) = z__11
      have e_12 := i_mulLE (c := 32) (by decide) hz_z__11 (by omega) (by omega)
      generalize hz_z__13 : (z__11 + x9) = z__13
      have e_14 := i_addE hz_z__13 (by omega) (by omega)
      refine wp_ck (i_inb (by omega) (by omega)) ?_
      refine wp_so1 ?_
      show wp _ _
      refine wp_ifp h_15 ?_
      refine wp_of (uf_X9_movesAll_217 _ _ _ _ _ _ _ _ _ _ _ _ _ _ _ _ _ _ _ _ _ _ _ _ _ _) ?_
      refine wp_in1 ?_
      refine wp_of (uf_X9_placeOf _ _ _ _ _ _) ?_
      refine wp_ifn (by decide) ?_
      generalize hz_z__16 : ((32 : Int32) * x1) = z__16
      have e_17 := i_mulLE (c := 32) (by decide) hz_z__16 (by omega) (by omega)
      generalize hz_z__18 : (z__16 + x9) = z__18
      have e_19 := i_addE hz_z__18 (by omega) (by omega)
      refine wp_ck (i_inb (by omega) (by omega)) ?_
      refine wp_so1 ?_
      show wp _ _
      have n_20 : (2 : Int32).toInt = 2 := by decide
      generalize hz_z__21 : ((2 : Int32) * x2) = z__21
      have e_22 := i_mulLE (c := 2) (by decide) hz_z__21 (by omega) (by omega)
      have n_23 : (1 : Int32).toInt = 1 := by decide
      generalize hz_z__24 : (z__21 - (1 : Int32)) = z__24
      have e_25 := i_subE hz_z__24 (by omega) (by omega)
      obtain ⟨e_26, e1_26⟩ := zn_get l5 (i := z__13) (by omega) (by omega) (by omega) (by omega)
      refine wp_nm (fun y_39 h_y_39 => ?_)
      have e_27 := i_subE h_y_39.symm (by omega) (by omega)
      have n_28 := i_64 y_39
      have n_29 : (0 : Int64).toInt = 0 := by decide
      generalize hz_z__30 : (x7 - (1 : Int32)) = z__30
      have e_31 := i_subE hz_z__30 (by omega) (by omega)
      have n_32 := i_64 z__30
      refine wp_bd1 (sf_X9_within hN ) (fun r_40 q_33 => ?_)
      rcases q_33 with ⟨rfl, q_33⟩ | ⟨rfl, q_33⟩
      ·
        refine wp_ifn (by decide) ?_
        refine wp_in1 ?_
        refine wp_of (uf_X9_pileAt _ _ _) ?_
        refine wp_so1 ?_
        show wp _ _
        have n_34 : (8 : Int32).toInt = 8 := by decide
        obtain ⟨e_35, e1_35⟩ := zn_get l6 (i := z__18) (by omega) (by omega) (by omega) (by omega)
        generalize hz_z__36 : ((8 : Int32) * (mm_ig v_column z__18)) = z__36
        have e_37 := i_mulLE (c := 8) (by decide) hz_z__36 (by omega) (by omega)
        generalize hz_z__38 : (z__36 + y_39) = z__38
        have e_39 := i_addE hz_z__38 (by omega) (by omega)
        refine wp_ck (i_inb (by omega) (by omega)) ?_
        refine wp_of (uf_X9_movesAll_263 _ _ _ _ _ _ _ _ _ _ _ _ _ _ _ _ _ _ _ _ _ _ _ _ _ _) ?_
        refine wp_if (fun c_40 => ?_) (fun c_40 => ?_)
        ·
          have dc_40 := i_le c_40
          refine wp_of (uf_X9_movesAll_276 _ _ _ _ _ _ _ _ _ _ _ _ _ _ _ _ _ _ _ _ _ _ _ _ _ _ _) ?_
          refine wp_if (fun c_41 => ?_) (fun c_41 => ?_)
          ·
            have dc_41 := i_eq c_41
            refine wp_in1 ?_
            refine wp_of (uf_X9_pileAt _ _ _) ?_
            refine wp_so1 ?_
            show wp _ _
            generalize hz_z__42 : ((8 : Int32) * (mm_ig v_column z__18)) = z__42
            have e_43 := i_mulLE (c := 8) (by decide) hz_z__42 (by omega) (by omega)
            generalize hz_z__44 : (z__42 + (mm_ig v_row z__13)) = z__44
            have e_45 := i_addE hz_z__44 (by omega) (by omega)
            refine wp_ck (i_inb (by omega) (by omega)) ?_
            refine wp_ck (i_inb (by omega) (by omega)) ?_
            refine wp_nm (fun y_55 _ => ?_)
            refine wp_if (fun c_46 => ?_) (fun c_46 => ?_)
            ·
              have dc_46 := i_eq c_46
              refine wp_of (uf_X9_movesAll_326 _ _ _ _ _ _ _ _ _ _ _ _ _ _ _ _ _ _ _ _ _ _ _ _ _) ?_
              refine wp_ck (i_inb (by omega) (by omega)) ?_
              refine wp_nm (fun l_58 h_l_58 => ?_)
              have nl_l_58 : l_58.length = 32 := by rw [h_l_58, is_len]; assumption
              refine wp_ck (i_inb (by omega) (by omega)) ?_
              refine wp_nm (fun y_60 _ => ?_)
              refine wp_ck (i_inb (by omega) (by omega)) ?_
              refine wp_nm (fun l_62 h_l_62 => ?_)
              have nl_l_62 : l_62.length = 192 := by rw [h_l_62, is_len]; assumption
              refine wp_nm (fun y_63 h_y_63 => ?_)
              have e_47 := i_subE h_y_63.symm (by omega) (by omega)
              refine wp_ck (i_inb (by omega) (by omega)) ?_
              refine wp_nm (fun l_65 h_l_65 => ?_)
              have nl_l_65 : l_65.length = 32 := by rw [h_l_65, is_len]; assumption
              refine wp_of (uf_X9_movesAll_402 _ _ _ _ _ _ _ _ _ _ _ _ _ _ _ _ _ _ _ _ _) ?_
              refine wp_nm (fun y_66 h_y_66 => ?_)
              have e_48 := i_addE h_y_66.symm (by omega) (by omega)
              exact ih _ _ _ _ _ _ _ _ _ _ _ _ _ _ _ _ _ _ _ h_0 h_1 h_2 h_3 h_4 h_5 h_6 h_7 h_8 nl_l_62 nl_l_58 nl_l_65 h_12 h_13 h_14 h_15 h_16 h_17 h_18 h_19 h_22 h_23 h_24 h_25 h_26 h_27 h_28 h_29 h_30 (by first | assumption | exact fr_refl _ _ _ | (rw [h_l_62]; exact fr_set (by first | assumption | exact fr_refl _ _ _) (by omega) (by omega) (by omega))) h_32 (by omega) (by omega) (by first | (rw [h_l_65]; exact zn_ext h_35 (by omega) (by omega) (by omega) (by omega) (by omega)) | assumption | exact zn_nil (by omega) | (rw [h_l_65]; first | exact zn_out h_35 (by omega) (by omega) | exact zn_in h_35 (by omega) (by omega) (by omega) | exact zn_ext h_35 (by omega) (by omega) (by omega) (by omega) (by omega) | exact zn_out (zn_sub h_35 (by omega) (by omega) (by omega) (by omega)) (by omega) (by omega)) | (exfalso; omega)) (by omega)
            ·
              have dc_46 := i_ne c_46
              refine wp_of (uf_X9_movesAll_326 _ _ _ _ _ _ _ _ _ _ _ _ _ _ _ _ _ _ _ _ _ _ _ _ _) ?_
              refine wp_ck (i_inb (by omega) (by omega)) ?_
              refine wp_nm (fun l_58__49 h_l_58__49 => ?_)
              have nl_l_58__49 : l_58__49.length = 32 := by rw [h_l_58__49, is_len]; assumption
              refine wp_ck (i_inb (by omega) (by omega)) ?_
              refine wp_nm (fun y_60__50 _ => ?_)
              refine wp_ck (i_inb (by omega) (by omega)) ?_
              refine wp_nm (fun l_62__51 h_l_62__51 => ?_)
              have nl_l_62__51 : l_62__51.length = 192 := by rw [h_l_62__51, is_len]; assumption
              refine wp_nm (fun y_63__52 h_y_63__52 => ?_)
              have e_53 := i_subE h_y_63__52.symm (by omega) (by omega)
              refine wp_ck (i_inb (by omega) (by omega)) ?_
              refine wp_nm (fun l_65__54 h_l_65__54 => ?_)
              have nl_l_65__54 : l_65__54.length = 32 := by rw [h_l_65__54, is_len]; assumption
              refine wp_of (uf_X9_movesAll_402 _ _ _ _ _ _ _ _ _ _ _ _ _ _ _ _ _ _ _ _ _) ?_
              refine wp_nm (fun y_66__55 h_y_66__55 => ?_)
              have e_56 := i_addE h_y_66__55.symm (by omega) (by omega)
              exact ih _ _ _ _ _ _ _ _ _ _ _ _ _ _ _ _ _ _ _ h_0 h_1 h_2 h_3 h_4 h_5 h_6 h_7 h_8 nl_l_62__51 nl_l_58__49 nl_l_65__54 h_12 h_13 h_14 h_15 h_16 h_17 h_18 h_19 h_22 h_23 h_24 h_25 h_26 h_27 h_28 h_29 h_30 (by first | assumption | exact fr_refl _ _ _ | (rw [h_l_62__51]; exact fr_set (by first | assumption | exact fr_refl _ _ _) (by omega) (by omega) (by omega))) h_32 (by omega) (by omega) (by first | (rw [h_l_65__54]; exact zn_ext h_35 (by omega) (by omega) (by omega) (by omega) (by omega)) | assumption | exact zn_nil (by omega) | (rw [h_l_65__54]; first | exact zn_out h_35 (by omega) (by omega) | exact zn_in h_35 (by omega) (by omega) (by omega) | exact zn_ext h_35 (by omega) (by omega) (by omega) (by omega) (by omega) | exact zn_out (zn_sub h_35 (by omega) (by omega) (by omega) (by omega)) (by omega) (by omega)) | (exfalso; omega)) (by omega)
          ·
            have dc_41 := i_ne c_41
            refine wp_if (fun c_57 => ?_) (fun c_57 => ?_)
            ·
              have dc_57 := i_eq c_57
              refine wp_ck (i_inb (by omega) (by omega)) ?_
              refine wp_of (uf_X9_movesAll_389 _ _ _ _ _ _ _ _ _ _ _ _ _ _ _ _ _ _ _ _ _ _ _ _) ?_
              refine wp_ck (i_inb (by omega) (by omega)) ?_
              refine wp_nm (fun l_68 h_l_68 => ?_)
              have nl_l_68 : l_68.length = 32 := by rw [h_l_68, is_len]; assumption
              refine wp_nm (fun y_69 h_y_69 => ?_)
              have e_58 := i_subE h_y_69.symm (by omega) (by omega)
              refine wp_ck (i_inb (by omega) (by omega)) ?_
              refine wp_nm (fun l_71 h_l_71 => ?_)
              have nl_l_71 : l_71.length = 32 := by rw [h_l_71, is_len]; assumption
              refine wp_of (uf_X9_movesAll_402 _ _ _ _ _ _ _ _ _ _ _ _ _ _ _ _ _ _ _ _ _) ?_
              refine wp_nm (fun y_66__59 h_y_66__59 => ?_)
              have e_60 := i_addE h_y_66__59.symm (by omega) (by omega)
              exact ih _ _ _ _ _ _ _ _ _ _ _ _ _ _ _ _ _ _ _ h_0 h_1 h_2 h_3 h_4 h_5 h_6 h_7 h_8 h_9 nl_l_68 nl_l_71 h_12 h_13 h_14 h_15 h_16 h_17 h_18 h_19 h_22 h_23 h_24 h_25 h_26 h_27 h_28 h_29 h_30 h_31 h_32 (by omega) (by omega) (by first | (rw [h_l_71]; exact zn_ext h_35 (by omega) (by omega) (by omega) (by omega) (by omega)) | assumption | exact zn_nil (by omega) | (rw [h_l_71]; first | exact zn_out h_35 (by omega) (by omega) | exact zn_in h_35 (by omega) (by omega) (by omega) | exact zn_ext h_35 (by omega) (by omega) (by omega) (by omega) (by omega) | exact zn_out (zn_sub h_35 (by omega) (by omega) (by omega) (by omega)) (by omega) (by omega)) | (exfalso; omega)) (by omega)
            ·
              have dc_57 := i_ne c_57
              refine wp_ck (i_inb (by omega) (by omega)) ?_
              refine wp_of (uf_X9_movesAll_389 _ _ _ _ _ _ _ _ _ _ _ _ _ _ _ _ _ _ _ _ _ _ _ _) ?_
              refine wp_ck (i_inb (by omega) (by omega)) ?_
              refine wp_nm (fun l_68__61 h_l_68__61 => ?_)
              have nl_l_68__61 : l_68__61.length = 32 := by rw [h_l_68__61, is_len]; assumption
              refine wp_nm (fun y_69__62 h_y_69__62 => ?_)
              have e_63 := i_subE h_y_69__62.symm (by omega) (by omega)
              refine wp_ck (i_inb (by omega) (by omega)) ?_
              refine wp_nm (fun l_71__64 h_l_71__64 => ?_)
              have nl_l_71__64 : l_71__64.length = 32 := by rw [h_l_71__64, is_len]; assumption
              refine wp_of (uf_X9_movesAll_402 _ _ _ _ _ _ _ _ _ _ _ _ _ _ _ _ _ _ _ _ _) ?_
              refine wp_nm (fun y_66__65 h_y_66__65 => ?_)
              have e_66 := i_addE h_y_66__65.symm (by omega) (by omega)
              exact ih _ _ _ _ _ _ _ _ _ _ _ _ _ _ _ _ _ _ _ h_0 h_1 h_2 h_3 h_4 h_5 h_6 h_7 h_8 h_9 nl_l_68__61 nl_l_71__64 h_12 h_13 h_14 h_15 h_16 h_17 h_18 h_19 h_22 h_23 h_24 h_25 h_26 h_27 h_28 h_29 h_30 h_31 h_32 (by omega) (by omega) (by first | (rw [h_l_71__64]; exact zn_ext h_35 (by omega) (by omega) (by omega) (by omega) (by omega)) | assumption | exact zn_nil (by omega) | (rw [h_l_71__64]; first | exact zn_out h_35 (by omega) (by omega) | exact zn_in h_35 (by omega) (by omega) (by omega) | exact zn_ext h_35 (by omega) (by omega) (by omega) (by omega) (by omega) | exact zn_out (zn_sub h_35 (by omega) (by omega) (by omega) (by omega)) (by omega) (by omega)) | (exfalso; omega)) (by omega)
        ·
          have dc_40 := i_nle c_40
          refine wp_of (uf_X9_movesAll_276 _ _ _ _ _ _ _ _ _ _ _ _ _ _ _ _ _ _ _ _ _ _ _ _ _ _ _) ?_
          refine wp_if (fun c_67 => ?_) (fun c_67 => ?_)
          ·
            have dc_67 := i_eq c_67
            refine wp_in1 ?_
            refine wp_of (uf_X9_pileAt _ _ _) ?_
            refine wp_so1 ?_
            show wp _ _
            generalize hz_z__68 : ((8 : Int32) * (mm_ig v_column z__18)) = z__68
            have e_69 := i_mulLE (c := 8) (by decide) hz_z__68 (by omega) (by omega)
            generalize hz_z__70 : (z__68 + (mm_ig v_row z__13)) = z__70
            have e_71 := i_addE hz_z__70 (by omega) (by omega)
            refine wp_ck (i_inb (by omega) (by omega)) ?_
            refine wp_ck (i_inb (by omega) (by omega)) ?_
            refine wp_nm (fun y_55__72 _ => ?_)
            refine wp_if (fun c_73 => ?_) (fun c_73 => ?_)
            ·
              have dc_73 := i_eq c_73
              refine wp_of (uf_X9_movesAll_326 _ _ _ _ _ _ _ _ _ _ _ _ _ _ _ _ _ _ _ _ _ _ _ _ _) ?_
              refine wp_ck (i_inb (by omega) (by omega)) ?_
              refine wp_nm (fun l_58__74 h_l_58__74 => ?_)
              have nl_l_58__74 : l_58__74.length = 32 := by rw [h_l_58__74, is_len]; assumption
              refine wp_ck (i_inb (by omega) (by omega)) ?_
              refine wp_nm (fun y_60__75 _ => ?_)
              refine wp_ck (i_inb (by omega) (by omega)) ?_
              refine wp_nm (fun l_62__76 h_l_62__76 => ?_)
              have nl_l_62__76 : l_62__76.length = 192 := by rw [h_l_62__76, is_len]; assumption
              refine wp_nm (fun y_63__77 h_y_63__77 => ?_)
              have e_78 := i_subE h_y_63__77.symm (by omega) (by omega)
              refine wp_ck (i_inb (by omega) (by omega)) ?_
              refine wp_nm (fun l_65__79 h_l_65__79 => ?_)
              have nl_l_65__79 : l_65__79.length = 32 := by rw [h_l_65__79, is_len]; assumption
              refine wp_of (uf_X9_movesAll_402 _ _ _ _ _ _ _ _ _ _ _ _ _ _ _ _ _ _ _ _ _) ?_
              refine wp_nm (fun y_66__80 h_y_66__80 => ?_)
              have e_81 := i_addE h_y_66__80.symm (by omega) (by omega)
              exact ih _ _ _ _ _ _ _ _ _ _ _ _ _ _ _ _ _ _ _ h_0 h_1 h_2 h_3 h_4 h_5 h_6 h_7 h_8 nl_l_62__76 nl_l_58__74 nl_l_65__79 h_12 h_13 h_14 h_15 h_16 h_17 h_18 h_19 h_22 h_23 h_24 h_25 h_26 h_27 h_28 h_29 h_30 (by first | assumption | exact fr_refl _ _ _ | (rw [h_l_62__76]; exact fr_set (by first | assumption | exact fr_refl _ _ _) (by omega) (by omega) (by omega))) h_32 (by omega) (by omega) (by first | (rw [h_l_65__79]; exact zn_ext h_35 (by omega) (by omega) (by omega) (by omega) (by omega)) | assumption | exact zn_nil (by omega) | (rw [h_l_65__79]; first | exact zn_out h_35 (by omega) (by omega) | exact zn_in h_35 (by omega) (by omega) (by omega) | exact zn_ext h_35 (by omega) (by omega) (by omega) (by omega) (by omega) | exact zn_out (zn_sub h_35 (by omega) (by omega) (by omega) (by omega)) (by omega) (by omega)) | (exfalso; omega)) (by omega)
            ·
              have dc_73 := i_ne c_73
              refine wp_of (uf_X9_movesAll_326 _ _ _ _ _ _ _ _ _ _ _ _ _ _ _ _ _ _ _ _ _ _ _ _ _) ?_
              refine wp_ck (i_inb (by omega) (by omega)) ?_
              refine wp_nm (fun l_58__82 h_l_58__82 => ?_)
              have nl_l_58__82 : l_58__82.length = 32 := by rw [h_l_58__82, is_len]; assumption
              refine wp_ck (i_inb (by omega) (by omega)) ?_
              refine wp_nm (fun y_60__83 _ => ?_)
              refine wp_ck (i_inb (by omega) (by omega)) ?_
              refine wp_nm (fun l_62__84 h_l_62__84 => ?_)
              have nl_l_62__84 : l_62__84.length = 192 := by rw [h_l_62__84, is_len]; assumption
              refine wp_nm (fun y_63__85 h_y_63__85 => ?_)
              have e_86 := i_subE h_y_63__85.symm (by omega) (by omega)
              refine wp_ck (i_inb (by omega) (by omega)) ?_
              refine wp_nm (fun l_65__87 h_l_65__87 => ?_)
              have nl_l_65__87 : l_65__87.length = 32 := by rw [h_l_65__87, is_len]; assumption
              refine wp_of (uf_X9_movesAll_402 _ _ _ _ _ _ _ _ _ _ _ _ _ _ _ _ _ _ _ _ _) ?_
              refine wp_nm (fun y_66__88 h_y_66__88 => ?_)
              have e_89 := i_addE h_y_66__88.symm (by omega) (by omega)
              exact ih _ _ _ _ _ _ _ _ _ _ _ _ _ _ _ _ _ _ _ h_0 h_1 h_2 h_3 h_4 h_5 h_6 h_7 h_8 nl_l_62__84 nl_l_58__82 nl_l_65__87 h_12 h_13 h_14 h_15 h_16 h_17 h_18 h_19 h_22 h_23 h_24 h_25 h_26 h_27 h_28 h_29 h_30 (by first | assumption | exact fr_refl _ _ _ | (rw [h_l_62__84]; exact fr_set (by first | assumption | exact fr_refl _ _ _) (by omega) (by omega) (by omega))) h_32 (by omega) (by omega) (by first | (rw [h_l_65__87]; exact zn_ext h_35 (by omega) (by omega) (by omega) (by omega) (by omega)) | assumption | exact zn_nil (by omega) | (rw [h_l_65__87]; first | exact zn_out h_35 (by omega) (by omega) | exact zn_in h_35 (by omega) (by omega) (by omega) | exact zn_ext h_35 (by omega) (by omega) (by omega) (by omega) (by omega) | exact zn_out (zn_sub h_35 (by omega) (by omega) (by omega) (by omega)) (by omega) (by omega)) | (exfalso; omega)) (by omega)
          ·
            have dc_67 := i_ne c_67
            refine wp_if (fun c_90 => ?_) (fun c_90 => ?_)
            ·
              have dc_90 := i_eq c_90
              refine wp_ck (i_inb (by omega) (by omega)) ?_
              refine wp_of (uf_X9_movesAll_389 _ _ _ _ _ _ _ _ _ _ _ _ _ _ _ _ _ _ _ _ _ _ _ _) ?_
              refine wp_ck (i_inb (by omega) (by omega)) ?_
              refine wp_nm (fun l_68__91 h_l_68__91 => ?_)
              have nl_l_68__91 : l_68__91.length = 32 := by rw [h_l_68__91, is_len]; assumption
              refine wp_nm (fun y_69__92 h_y_69__92 => ?_)
              have e_93 := i_subE h_y_69__92.symm (by omega) (by omega)
              refine wp_ck (i_inb (by omega) (by omega)) ?_
              refine wp_nm (fun l_71__94 h_l_71__94 => ?_)
              have nl_l_71__94 : l_71__94.length = 32 := by rw [h_l_71__94, is_len]; assumption
              refine wp_of (uf_X9_movesAll_402 _ _ _ _ _ _ _ _ _ _ _ _ _ _ _ _ _ _ _ _ _) ?_
              refine wp_nm (fun y_66__95 h_y_66__95 => ?_)
              have e_96 := i_addE h_y_66__95.symm (by omega) (by omega)
              exact ih _ _ _ _ _ _ _ _ _ _ _ _ _ _ _ _ _ _ _ h_0 h_1 h_2 h_3 h_4 h_5 h_6 h_7 h_8 h_9 nl_l_68__91 nl_l_71__94 h_12 h_13 h_14 h_15 h_16 h_17 h_18 h_19 h_22 h_23 h_24 h_25 h_26 h_27 h_28 h_29 h_30 h_31 h_32 (by omega) (by omega) (by first | (rw [h_l_71__94]; exact zn_ext h_35 (by omega) (by omega) (by omega) (by omega) (by omega)) | assumption | exact zn_nil (by omega) | (rw [h_l_71__94]; first | exact zn_out h_35 (by omega) (by omega) | exact zn_in h_35 (by omega) (by omega) (by omega) | exact zn_ext h_35 (by omega) (by omega) (by omega) (by omega) (by omega) | exact zn_out (zn_sub h_35 (by omega) (by omega) (by omega) (by omega)) (by omega) (by omega)) | (exfalso; omega)) (by omega)
            ·
              have dc_90 := i_ne c_90
              refine wp_ck (i_inb (by omega) (by omega)) ?_
              refine wp_of (uf_X9_movesAll_389 _ _ _ _ _ _ _ _ _ _ _ _ _ _ _ _ _ _ _ _ _ _ _ _) ?_
              refine wp_ck (i_inb (by omega) (by omega)) ?_
              refine wp_nm (fun l_68__97 h_l_68__97 => ?_)
              have nl_l_68__97 : l_68__97.length = 32 := by rw [h_l_68__97, is_len]; assumption
              refine wp_nm (fun y_69__98 h_y_69__98 => ?_)
              have e_99 := i_subE h_y_69__98.symm (by omega) (by omega)
              refine wp_ck (i_inb (by omega) (by omega)) ?_
              refine wp_nm (fun l_71__100 h_l_71__100 => ?_)
              have nl_l_71__100 : l_71__100.length = 32 := by rw [h_l_71__100, is_len]; assumption
              refine wp_of (uf_X9_movesAll_402 _ _ _ _ _ _ _ _ _ _ _ _ _ _ _ _ _ _ _ _ _) ?_
              refine wp_nm (fun y_66__101 h_y_66__101 => ?_)
              have e_102 := i_addE h_y_66__101.symm (by omega) (by omega)
              exact ih _ _ _ _ _ _ _ _ _ _ _ _ _ _ _ _ _ _ _ h_0 h_1 h_2 h_3 h_4 h_5 h_6 h_7 h_8 h_9 nl_l_68__97 nl_l_71__100 h_12 h_13 h_14 h_15 h_16 h_17 h_18 h_19 h_22 h_23 h_24 h_25 h_26 h_27 h_28 h_29 h_30 h_31 h_32 (by omega) (by omega) (by first | (rw [h_l_71__100]; exact zn_ext h_35 (by omega) (by omega) (by omega) (by omega) (by omega)) | assumption | exact zn_nil (by omega) | (rw [h_l_71__100]; first | exact zn_out h_35 (by omega) (by omega) | exact zn_in h_35 (by omega) (by omega) (by omega) | exact zn_ext h_35 (by omega) (by omega) (by omega) (by omega) (by omega) | exact zn_out (zn_sub h_35 (by omega) (by omega) (by omega) (by omega)) (by omega) (by omega)) | (exfalso; omega)) (by omega)
      ·
        refine wp_ifp (by decide) ?_
        refine wp_of (uf_X9_movesAll_263 _ _ _ _ _ _ _ _ _ _ _ _ _ _ _ _ _ _ _ _ _ _ _ _ _ _) ?_
        refine wp_if (fun c_103 => ?_) (fun c_103 => ?_)
        ·
          have dc_103 := i_le c_103
          refine wp_of (uf_X9_movesAll_276 _ _ _ _ _ _ _ _ _ _ _ _ _ _ _ _ _ _ _ _ _ _ _ _ _ _ _) ?_
          refine wp_if (fun c_104 => ?_) (fun c_104 => ?_)
          ·
            have dc_104 := i_eq c_104
            refine wp_in1 ?_
            refine wp_of (uf_X9_pileAt _ _ _) ?_
            refine wp_so1 ?_
            show wp _ _
            have n_105 : (8 : Int32).toInt = 8 := by decide
            obtain ⟨e_106, e1_106⟩ := zn_get l6 (i := z__18) (by omega) (by omega) (by omega) (by omega)
            generalize hz_z__107 : ((8 : Int32) * (mm_ig v_column z__18)) = z__107
            have e_108 := i_mulLE (c := 8) (by decide) hz_z__107 (by omega) (by omega)
            generalize hz_z__109 : (z__107 + (mm_ig v_row z__13)) = z__109
            have e_110 := i_addE hz_z__109 (by omega) (by omega)
            refine wp_ck (i_inb (by omega) (by omega)) ?_
            refine wp_ck (i_inb (by omega) (by omega)) ?_
            refine wp_nm (fun y_55__111 _ => ?_)
            refine wp_if (fun c_112 => ?_) (fun c_112 => ?_)
            ·
              have dc_112 := i_eq c_112
              refine wp_of (uf_X9_movesAll_326 _ _ _ _ _ _ _ _ _ _ _ _ _ _ _ _ _ _ _ _ _ _ _ _ _) ?_
              refine wp_ck (i_inb (by omega) (by omega)) ?_
              refine wp_nm (fun l_58__113 h_l_58__113 => ?_)
              have nl_l_58__113 : l_58__113.length = 32 := by rw [h_l_58__113, is_len]; assumption
              refine wp_ck (i_inb (by omega) (by omega)) ?_
              refine wp_nm (fun y_60__114 _ => ?_)
              refine wp_ck (i_inb (by omega) (by omega)) ?_
              refine wp_nm (fun l_62__115 h_l_62__115 => ?_)
              have nl_l_62__115 : l_62__115.length = 192 := by rw [h_l_62__115, is_len]; assumption
              refine wp_nm (fun y_63__116 h_y_63__116 => ?_)
              have e_117 := i_subE h_y_63__116.symm (by omega) (by omega)
              refine wp_ck (i_inb (by omega) (by omega)) ?_
              refine wp_nm (fun l_65__118 h_l_65__118 => ?_)
              have nl_l_65__118 : l_65__118.length = 32 := by rw [h_l_65__118, is_len]; assumption
              refine wp_of (uf_X9_movesAll_402 _ _ _ _ _ _ _ _ _ _ _ _ _ _ _ _ _ _ _ _ _) ?_
              refine wp_nm (fun y_66__119 h_y_66__119 => ?_)
              have e_120 := i_addE h_y_66__119.symm (by omega) (by omega)
              exact ih _ _ _ _ _ _ _ _ _ _ _ _ _ _ _ _ _ _ _ h_0 h_1 h_2 h_3 h_4 h_5 h_6 h_7 h_8 nl_l_62__115 nl_l_58__113 nl_l_65__118 h_12 h_13 h_14 h_15 h_16 h_17 h_18 h_19 h_22 h_23 h_24 h_25 h_26 h_27 h_28 h_29 h_30 (by first | assumption | exact fr_refl _ _ _ | (rw [h_l_62__115]; exact fr_set (by first | assumption | exact fr_refl _ _ _) (by omega) (by omega) (by omega))) h_32 (by omega) (by omega) (by first | (rw [h_l_65__118]; exact zn_ext h_35 (by omega) (by omega) (by omega) (by omega) (by omega)) | assumption | exact zn_nil (by omega) | (rw [h_l_65__118]; first | exact zn_out h_35 (by omega) (by omega) | exact zn_in h_35 (by omega) (by omega) (by omega) | exact zn_ext h_35 (by omega) (by omega) (by omega) (by omega) (by omega) | exact zn_out (zn_sub h_35 (by omega) (by omega) (by omega) (by omega)) (by omega) (by omega)) | (exfalso; omega)) (by omega)
            ·
              have dc_112 := i_ne c_112
              refine wp_of (uf_X9_movesAll_326 _ _ _ _ _ _ _ _ _ _ _ _ _ _ _ _ _ _ _ _ _ _ _ _ _) ?_
              refine wp_ck (i_inb (by omega) (by omega)) ?_
              refine wp_nm (fun l_58__121 h_l_58__121 => ?_)
              have nl_l_58__121 : l_58__121.length = 32 := by rw [h_l_58__121, is_len]; assumption
              refine wp_ck (i_inb (by omega) (by omega)) ?_
              refine wp_nm (fun y_60__122 _ => ?_)
              refine wp_ck (i_inb (by omega) (by omega)) ?_
              refine wp_nm (fun l_62__123 h_l_62__123 => ?_)
              have nl_l_62__123 : l_62__123.length = 192 := by rw [h_l_62__123, is_len]; assumption
              refine wp_nm (fun y_63__124 h_y_63__124 => ?_)
              have e_125 := i_subE h_y_63__124.symm (by omega) (by omega)
              refine wp_ck (i_inb (by omega) (by omega)) ?_
              refine wp_nm (fun l_65__126 h_l_65__126 => ?_)
              have nl_l_65__126 : l_65__126.length = 32 := by rw [h_l_65__126, is_len]; assumption
              refine wp_of (uf_X9_movesAll_402 _ _ _ _ _ _ _ _ _ _ _ _ _ _ _ _ _ _ _ _ _) ?_
              refine wp_nm (fun y_66__127 h_y_66__127 => ?_)
              have e_128 := i_addE h_y_66__127.symm (by omega) (by omega)
              exact ih _ _ _ _ _ _ _ _ _ _ _ _ _ _ _ _ _ _ _ h_0 h_1 h_2 h_3 h_4 h_5 h_6 h_7 h_8 nl_l_62__123 nl_l_58__121 nl_l_65__126 h_12 h_13 h_14 h_15 h_16 h_17 h_18 h_19 h_22 h_23 h_24 h_25 h_26 h_27 h_28 h_29 h_30 (by first | assumption | exact fr_refl _ _ _ | (rw [h_l_62__123]; exact fr_set (by first | assumption | exact fr_refl _ _ _) (by omega) (by omega) (by omega))) h_32 (by omega) (by omega) (by first | (rw [h_l_65__126]; exact zn_ext h_35 (by omega) (by omega) (by omega) (by omega) (by omega)) | assumption | exact zn_nil (by omega) | (rw [h_l_65__126]; first | exact zn_out h_35 (by omega) (by omega) | exact zn_in h_35 (by omega) (by omega) (by omega) | exact zn_ext h_35 (by omega) (by omega) (by omega) (by omega) (by omega) | exact zn_out (zn_sub h_35 (by omega) (by omega) (by omega) (by omega)) (by omega) (by omega)) | (exfalso; omega)) (by omega)
          ·
            have dc_104 := i_ne c_104
            refine wp_if (fun c_129 => ?_) (fun c_129 => ?_)
            ·
              have dc_129 := i_eq c_129
              refine wp_ck (i_inb (by omega) (by omega)) ?_
              refine wp_of (uf_X9_movesAll_389 _ _ _ _ _ _ _ _ _ _ _ _ _ _ _ _ _ _ _ _ _ _ _ _) ?_
              refine wp_ck (i_inb (by omega) (by omega)) ?_
              refine wp_nm (fun l_68__130 h_l_68__130 => ?_)
              have nl_l_68__130 : l_68__130.length = 32 := by rw [h_l_68__130, is_len]; assumption
              refine wp_nm (fun y_69__131 h_y_69__131 => ?_)
              have e_132 := i_subE h_y_69__131.symm (by omega) (by omega)
              refine wp_ck (i_inb (by omega) (by omega)) ?_
              refine wp_nm (fun l_71__133 h_l_71__133 => ?_)
              have nl_l_71__133 : l_71__133.length = 32 := by rw [h_l_71__133, is_len]; assumption
              refine wp_of (uf_X9_movesAll_402 _ _ _ _ _ _ _ _ _ _ _ _ _ _ _ _ _ _ _ _ _) ?_
              refine wp_nm (fun y_66__134 h_y_66__134 => ?_)
              have e_135 := i_addE h_y_66__134.symm (by omega) (by omega)
              exact ih _ _ _ _ _ _ _ _ _ _ _ _ _ _ _ _ _ _ _ h_0 h_1 h_2 h_3 h_4 h_5 h_6 h_7 h_8 h_9 nl_l_68__130 nl_l_71__133 h_12 h_13 h_14 h_15 h_16 h_17 h_18 h_19 h_22 h_23 h_24 h_25 h_26 h_27 h_28 h_29 h_30 h_31 h_32 (by omega) (by omega) (by first | (rw [h_l_71__133]; exact zn_ext h_35 (by omega) (by omega) (by omega) (by omega) (by omega)) | assumption | exact zn_nil (by omega) | (rw [h_l_71__133]; first | exact zn_out h_35 (by omega) (by omega) | exact zn_in h_35 (by omega) (by omega) (by omega) | exact zn_ext h_35 (by omega) (by omega) (by omega) (by omega) (by omega) | exact zn_out (zn_sub h_35 (by omega) (by omega) (by omega) (by omega)) (by omega) (by omega)) | (exfalso; omega)) (by omega)
            ·
              have dc_129 := i_ne c_129
              refine wp_ck (i_inb (by omega) (by omega)) ?_
              refine wp_of (uf_X9_movesAll_389 _ _ _ _ _ _ _ _ _ _ _ _ _ _ _ _ _ _ _ _ _ _ _ _) ?_
              refine wp_ck (i_inb (by omega) (by omega)) ?_
              refine wp_nm (fun l_68__136 h_l_68__136 => ?_)
              have nl_l_68__136 : l_68__136.length = 32 := by rw [h_l_68__136, is_len]; assumption
              refine wp_nm (fun y_69__137 h_y_69__137 => ?_)
              have e_138 := i_subE h_y_69__137.symm (by omega) (by omega)
              refine wp_ck (i_inb (by omega) (by omega)) ?_
              refine wp_nm (fun l_71__139 h_l_71__139 => ?_)
              have nl_l_71__139 : l_71__139.length = 32 := by rw [h_l_71__139, is_len]; assumption
              refine wp_of (uf_X9_movesAll_402 _ _ _ _ _ _ _ _ _ _ _ _ _ _ _ _ _ _ _ _ _) ?_
              refine wp_nm (fun y_66__140 h_y_66__140 => ?_)
              have e_141 := i_addE h_y_66__140.symm (by omega) (by omega)
              exact ih _ _ _ _ _ _ _ _ _ _ _ _ _ _ _ _ _ _ _ h_0 h_1 h_2 h_3 h_4 h_5 h_6 h_7 h_8 h_9 nl_l_68__136 nl_l_71__139 h_12 h_13 h_14 h_15 h_16 h_17 h_18 h_19 h_22 h_23 h_24 h_25 h_26 h_27 h_28 h_29 h_30 h_31 h_32 (by omega) (by omega) (by first | (rw [h_l_71__139]; exact zn_ext h_35 (by omega) (by omega) (by omega) (by omega) (by omega)) | assumption | exact zn_nil (by omega) | (rw [h_l_71__139]; first | exact zn_out h_35 (by omega) (by omega) | exact zn_in h_35 (by omega) (by omega) (by omega) | exact zn_ext h_35 (by omega) (by omega) (by omega) (by omega) (by omega) | exact zn_out (zn_sub h_35 (by omega) (by omega) (by omega) (by omega)) (by omega) (by omega)) | (exfalso; omega)) (by omega)
        ·
          have dc_103 := i_nle c_103
          refine wp_of (uf_X9_movesAll_276 _ _ _ _ _ _ _ _ _ _ _ _ _ _ _ _ _ _ _ _ _ _ _ _ _ _ _) ?_
          refine wp_if (fun c_142 => ?_) (fun c_142 => ?_)
          ·
            have dc_142 := i_eq c_142
            refine wp_in1 ?_
            refine wp_of (uf_X9_pileAt _ _ _) ?_
            refine wp_so1 ?_
            show wp _ _
            have n_143 : (8 : Int32).toInt = 8 := by decide
            obtain ⟨e_144, e1_144⟩ := zn_get l6 (i := z__18) (by omega) (by omega) (by omega) (by omega)
            generalize hz_z__145 : ((8 : Int32) * (mm_ig v_column z__18)) = z__145
            have e_146 := i_mulLE (c := 8) (by decide) hz_z__145 (by omega) (by omega)
            generalize hz_z__147 : (z__145 + (mm_ig v_row z__13)) = z__147
            have e_148 := i_addE hz_z__147 (by omega) (by omega)
            refine wp_ck (i_inb (by omega) (by omega)) ?_
            refine wp_ck (i_inb (by omega) (by omega)) ?_
            refine wp_nm (fun y_55__149 _ => ?_)
            refine wp_if (fun c_150 => ?_) (fun c_150 => ?_)
            ·
              have dc_150 := i_eq c_150
              refine wp_of (uf_X9_movesAll_326 _ _ _ _ _ _ _ _ _ _ _ _ _ _ _ _ _ _ _ _ _ _ _ _ _) ?_
              refine wp_ck (i_inb (by omega) (by omega)) ?_
              refine wp_nm (fun l_58__151 h_l_58__151 => ?_)
              have nl_l_58__151 : l_58__151.length = 32 := by rw [h_l_58__151, is_len]; assumption
              refine wp_ck (i_inb (by omega) (by omega)) ?_
              refine wp_nm (fun y_60__152 _ => ?_)
              refine wp_ck (i_inb (by omega) (by omega)) ?_
              refine wp_nm (fun l_62__153 h_l_62__153 => ?_)
              have nl_l_62__153 : l_62__153.length = 192 := by rw [h_l_62__153, is_len]; assumption
              refine wp_nm (fun y_63__154 h_y_63__154 => ?_)
              have e_155 := i_subE h_y_63__154.symm (by omega) (by omega)
              refine wp_ck (i_inb (by omega) (by omega)) ?_
              refine wp_nm (fun l_65__156 h_l_65__156 => ?_)
              have nl_l_65__156 : l_65__156.length = 32 := by rw [h_l_65__156, is_len]; assumption
              refine wp_of (uf_X9_movesAll_402 _ _ _ _ _ _ _ _ _ _ _ _ _ _ _ _ _ _ _ _ _) ?_
              refine wp_nm (fun y_66__157 h_y_66__157 => ?_)
              have e_158 := i_addE h_y_66__157.symm (by omega) (by omega)
              exact ih _ _ _ _ _ _ _ _ _ _ _ _ _ _ _ _ _ _ _ h_0 h_1 h_2 h_3 h_4 h_5 h_6 h_7 h_8 nl_l_62__153 nl_l_58__151 nl_l_65__156 h_12 h_13 h_14 h_15 h_16 h_17 h_18 h_19 h_22 h_23 h_24 h_25 h_26 h_27 h_28 h_29 h_30 (by first | assumption | exact fr_refl _ _ _ | (rw [h_l_62__153]; exact fr_set (by first | assumption | exact fr_refl _ _ _) (by omega) (by omega) (by omega))) h_32 (by omega) (by omega) (by first | (rw [h_l_65__156]; exact zn_ext h_35 (by omega) (by omega) (by omega) (by omega) (by omega)) | assumption | exact zn_nil (by omega) | (rw [h_l_65__156]; first | exact zn_out h_35 (by omega) (by omega) | exact zn_in h_35 (by omega) (by omega) (by omega) | exact zn_ext h_35 (by omega) (by omega) (by omega) (by omega) (by omega) | exact zn_out (zn_sub h_35 (by omega) (by omega) (by omega) (by omega)) (by omega) (by omega)) | (exfalso; omega)) (by omega)
            ·
              have dc_150 := i_ne c_150
              refine wp_of (uf_X9_movesAll_326 _ _ _ _ _ _ _ _ _ _ _ _ _ _ _ _ _ _ _ _ _ _ _ _ _) ?_
              refine wp_ck (i_inb (by omega) (by omega)) ?_
              refine wp_nm (fun l_58__159 h_l_58__159 => ?_)
              have nl_l_58__159 : l_58__159.length = 32 := by rw [h_l_58__159, is_len]; assumption
              refine wp_ck (i_inb (by omega) (by omega)) ?_
              refine wp_nm (fun y_60__160 _ => ?_)
              refine wp_ck (i_inb (by omega) (by omega)) ?_
              refine wp_nm (fun l_62__161 h_l_62__161 => ?_)
              have nl_l_62__161 : l_62__161.length = 192 := by rw [h_l_62__161, is_len]; assumption
              refine wp_nm (fun y_63__162 h_y_63__162 => ?_)
              have e_163 := i_subE h_y_63__162.symm (by omega) (by omega)
              refine wp_ck (i_inb (by omega) (by omega)) ?_
              refine wp_nm (fun l_65__164 h_l_65__164 => ?_)
              have nl_l_65__164 : l_65__164.length = 32 := by rw [h_l_65__164, is_len]; assumption
              refine wp_of (uf_X9_movesAll_402 _ _ _ _ _ _ _ _ _ _ _ _ _ _ _ _ _ _ _ _ _) ?_
              refine wp_nm (fun y_66__165 h_y_66__165 => ?_)
              have e_166 := i_addE h_y_66__165.symm (by omega) (by omega)
              exact ih _ _ _ _ _ _ _ _ _ _ _ _ _ _ _ _ _ _ _ h_0 h_1 h_2 h_3 h_4 h_5 h_6 h_7 h_8 nl_l_62__161 nl_l_58__159 nl_l_65__164 h_12 h_13 h_14 h_15 h_16 h_17 h_18 h_19 h_22 h_23 h_24 h_25 h_26 h_27 h_28 h_29 h_30 (by first | assumption | exact fr_refl _ _ _ | (rw [h_l_62__161]; exact fr_set (by first | assumption | exact fr_refl _ _ _) (by omega) (by omega) (by omega))) h_32 (by omega) (by omega) (by first | (rw [h_l_65__164]; exact zn_ext h_35 (by omega) (by omega) (by omega) (by omega) (by omega)) | assumption | exact zn_nil (by omega) | (rw [h_l_65__164]; first | exact zn_out h_35 (by omega) (by omega) | exact zn_in h_35 (by omega) (by omega) (by omega) | exact zn_ext h_35 (by omega) (by omega) (by omega) (by omega) (by omega) | exact zn_out (zn_sub h_35 (by omega) (by omega) (by omega) (by omega)) (by omega) (by omega)) | (exfalso; omega)) (by omega)
          ·
            have dc_142 := i_ne c_142
            refine wp_if (fun c_167 => ?_) (fun c_167 => ?_)
            ·
              have dc_167 := i_eq c_167
              refine wp_ck (i_inb (by omega) (by omega)) ?_
              refine wp_of (uf_X9_movesAll_389 _ _ _ _ _ _ _ _ _ _ _ _ _ _ _ _ _ _ _ _ _ _ _ _) ?_
              refine wp_ck (i_inb (by omega) (by omega)) ?_
              refine wp_nm (fun l_68__168 h_l_68__168 => ?_)
              have nl_l_68__168 : l_68__168.length = 32 := by rw [h_l_68__168, is_len]; assumption
              refine wp_nm (fun y_69__169 h_y_69__169 => ?_)
              have e_170 := i_subE h_y_69__169.symm (by omega) (by omega)
              refine wp_ck (i_inb (by omega) (by omega)) ?_
              refine wp_nm (fun l_71__171 h_l_71__171 => ?_)
              have nl_l_71__171 : l_71__171.length = 32 := by rw [h_l_71__171, is_len]; assumption
              refine wp_of (uf_X9_movesAll_402 _ _ _ _ _ _ _ _ _ _ _ _ _ _ _ _ _ _ _ _ _) ?_
              refine wp_nm (fun y_66__172 h_y_66__172 => ?_)
              have e_173 := i_addE h_y_66__172.symm (by omega) (by omega)
              exact ih _ _ _ _ _ _ _ _ _ _ _ _ _ _ _ _ _ _ _ h_0 h_1 h_2 h_3 h_4 h_5 h_6 h_7 h_8 h_9 nl_l_68__168 nl_l_71__171 h_12 h_13 h_14 h_15 h_16 h_17 h_18 h_19 h_22 h_23 h_24 h_25 h_26 h_27 h_28 h_29 h_30 h_31 h_32 (by omega) (by omega) (by first | (rw [h_l_71__171]; exact zn_ext h_35 (by omega) (by omega) (by omega) (by omega) (by omega)) | assumption | exact zn_nil (by omega) | (rw [h_l_71__171]; first | exact zn_out h_35 (by omega) (by omega) | exact zn_in h_35 (by omega) (by omega) (by omega) | exact zn_ext h_35 (by omega) (by omega) (by omega) (by omega) (by omega) | exact zn_out (zn_sub h_35 (by omega) (by omega) (by omega) (by omega)) (by omega) (by omega)) | (exfalso; omega)) (by omega)
            ·
              have dc_167 := i_ne c_167
              refine wp_ck (i_inb (by omega) (by omega)) ?_
              refine wp_of (uf_X9_movesAll_389 _ _ _ _ _ _ _ _ _ _ _ _ _ _ _ _ _ _ _ _ _ _ _ _) ?_
              refine wp_ck (i_inb (by omega) (by omega)) ?_
              refine wp_nm (fun l_68__174 h_l_68__174 => ?_)
              have nl_l_68__174 : l_68__174.length = 32 := by rw [h_l_68__174, is_len]; assumption
              refine wp_nm (fun y_69__175 h_y_69__175 => ?_)
              have e_176 := i_subE h_y_69__175.symm (by omega) (by omega)
              refine wp_ck (i_inb (by omega) (by omega)) ?_
              refine wp_nm (fun l_71__177 h_l_71__177 => ?_)
              have nl_l_71__177 : l_71__177.length = 32 := by rw [h_l_71__177, is_len]; assumption
              refine wp_of (uf_X9_movesAll_402 _ _ _ _ _ _ _ _ _ _ _ _ _ _ _ _ _ _ _ _ _) ?_
              refine wp_nm (fun y_66__178 h_y_66__178 => ?_)
              have e_179 := i_addE h_y_66__178.symm (by omega) (by omega)
              exact ih _ _ _ _ _ _ _ _ _ _ _ _ _ _ _ _ _ _ _ h_0 h_1 h_2 h_3 h_4 h_5 h_6 h_7 h_8 h_9 nl_l_68__174 nl_l_71__177 h_12 h_13 h_14 h_15 h_16 h_17 h_18 h_19 h_22 h_23 h_24 h_25 h_26 h_27 h_28 h_29 h_30 h_31 h_32 (by omega) (by omega) (by first | (rw [h_l_71__177]; exact zn_ext h_35 (by omega) (by omega) (by omega) (by omega) (by omega)) | assumption | exact zn_nil (by omega) | (rw [h_l_71__177]; first | exact zn_out h_35 (by omega) (by omega) | exact zn_in h_35 (by omega) (by omega) (by omega) | exact zn_ext h_35 (by omega) (by omega) (by omega) (by omega) (by omega) | exact zn_out (zn_sub h_35 (by omega) (by omega) (by omega) (by omega)) (by omega) (by omega)) | (exfalso; omega)) (by omega)

theorem uf_X9_movesAll_118 (N : Nat) (n : Nat) (x1 : Int32) (x2 : Int32) (x4 : Int32) (x5 : Int32) (x6 : Int32) (x7 : Int32) (x8 : Int32) (x9 : Int32) (v_rowsOf : Int32) (v_columnsOf : Int32) (v_shapeRows : List Int32) (v_shapeColumns : List Int32) (v_row : List Int32) (v_column : List Int32) (v_below : List Int32) (v_face : List Int32) (v_high : List Int32) (v_to : List Int32) (v_pileSize : List Int32) : fX9_movesAll_118 N (n + 1) x1 x2 x4 x5 x6 x7 x8 x9 v_rowsOf v_columnsOf v_shapeRows v_shapeColumns v_row v_column v_below v_face v_high v_to v_pileSize = 
    mm_bd1 (fX9_fields N v_rowsOf v_columnsOf) (fun (r_15 : Int32) =>
    if r_15 ≤ x9 then
    (fX9_movesAll_174 N N x1 x2 x4 x5 x6 x7 x8 (0 : Int32) v_rowsOf v_columnsOf v_shapeRows v_shapeColumns v_row v_column v_below v_face v_high v_to v_pileSize)
    else (mm_bd1 (fX9_placeOf N x1 x9 x4 v_row v_column) (fun (r_18 : Int32) =>
    if x4 = 0 then
    (fX9_movesAll_154 N (fX9_movesAll_118 N n) x1 x2 x4 x5 x6 x7 x8 x9 (1 : Int32) x9 x1 r_18 v_rowsOf v_columnsOf v_shapeRows v_shapeColumns v_row v_column v_below v_face v_high v_to v_pileSize)
    else (fX9_movesAll_154 N (fX9_movesAll_118 N n) x1 x2 x4 x5 x6 x7 x8 x9 (0 : Int32) x9 x1 r_18 v_rowsOf v_columnsOf v_shapeRows v_shapeColumns v_row v_column v_below v_face v_high v_to v_pileSize)))) := rfl

theorem uf_X9_movesAll_154 (N : Nat) (k_118 : Int32 → Int32 → Int32 → Int32 → Int32 → Int32 → Int32 → Int32 → Int32 → Int32 → List Int32 → List Int32 → List Int32 → List Int32 → List Int32 → List Int32 → List Int32 → List Int32 → List Int32 → Option (List Int32 × List Int32 × List Int32 × List Int32 × List Int32 × List Int32 × List Int32 × List Int32 × List Int32)) (x1 : Int32) (x2 : Int32) (x4 : Int32) (x5 : Int32) (x6 : Int32) (x7 : Int32) (x8 : Int32) (x9 : Int32) (s0 : Int32) (s1 : Int32) (s2 : Int32) (s4 : Int32) (v_rowsOf : Int32) (v_columnsOf : Int32) (v_shapeRows : List Int32) (v_shapeColumns : List Int32) (v_row : List Int32) (v_column : List Int32) (v_below : List Int32) (v_face : List Int32) (v_high : List Int32) (v_to : List Int32) (v_pileSize : List Int32) : fX9_movesAll_154 N k_118 x1 x2 x4 x5 x6 x7 x8 x9 s0 s1 s2 s4 v_rowsOf v_columnsOf v_shapeRows v_shapeColumns v_row v_column v_below v_face v_high v_to v_pileSize = mm_bd1 (fX9_placeOf N s2 s1 s0 v_row v_column) (fun (r_21 : Int32) =>
    mm_bd1 (fX9_pileAt N s4 r_21) (fun (r_23 : Int32) =>
    mm_ck (mm_inb r_23 v_pileSize.length) (mm_nm (((mm_ig v_pileSize r_23) + (1 : Int32))) (fun (y_26 : Int32) =>
    mm_ck (mm_inb r_23 v_pileSize.length) (mm_nm (mm_is v_pileSize r_23 y_26) (fun (l_28 : List Int32) =>
    mm_nm (x9 + (1 : Int32)) (fun (y_29 : Int32) =>
    k_118 x1 x2 x4 x5 x6 x7 x8 y_29 v_rowsOf v_columnsOf v_shapeRows v_shapeColumns v_row v_column v_below v_face v_high v_to l_28))))))) := rfl

set_option maxHeartbeats 4000000 in
set_option maxRecDepth 20000 in
theorem sf_X9_movesAll_118_r {N : Nat} (hN : 700 ≤ N) {u_row : List Int32} {u_col : List Int32} {u_sR : List Int32} {u_sC : List Int32} {A : Int} {B9 : Int} {a9 : Int} {b9 : Int} {u_bel : List Int32} {u_fac : List Int32} : ∀ (n : Nat) (x1 : Int32) (x2 : Int32) (x4 : Int32) (x5 : Int32) (x6 : Int32) (x7 : Int32) (x8 : Int32) (x9 : Int32) (v_rowsOf : Int32) (v_columnsOf : Int32) (v_shapeRows : List Int32) (v_shapeColumns : List Int32) (v_row : List Int32) (v_column : List Int32) (v_below : List Int32) (v_face : List Int32) (v_high : List Int32) (v_to : List Int32) (v_pileSize : List Int32), 1 ≤ v_rowsOf.toInt → v_rowsOf.toInt ≤ 4 → 1 ≤ v_columnsOf.toInt → v_columnsOf.toInt ≤ 8 → v_shapeRows.length = 6 → v_shapeColumns.length = 6 → v_row.length = 192 → v_column.length = 192 → v_below.length = 192 → v_face.length = 192 → v_high.length = 32 → v_to.length = 32 → v_pileSize.length = 64 → 0 ≤ x1.toInt → x1.toInt ≤ 5 → (x4 = (0 : Int32)) → 1 ≤ x2.toInt → x2.toInt < x7.toInt → x7.toInt = (mm_ig v_shapeRows x1).toInt → (x5.toInt = 1 ∧ x8.toInt = x2.toInt) ∨ (x5.toInt = 0 ∧ x8.toInt = min 0 (2 * x2.toInt - x7.toInt)) → fr u_row v_row A B9 → fr u_col v_column A B9 → fr u_sR v_shapeRows a9 b9 → fr u_sC v_shapeColumns a9 b9 → A ≤ 32 * x1.toInt → 32 * x1.toInt + 32 ≤ B9 → a9 ≤ x1.toInt → x1.toInt < b9 → fr u_bel v_below A B9 → fr u_fac v_face A B9 → lv9 v_rowsOf v_columnsOf v_shapeRows v_shapeColumns v_row v_column x1 → 0 ≤ x9.toInt → x9.toInt ≤ v_rowsOf.toInt * v_columnsOf.toInt → (v_rowsOf.toInt * v_columnsOf.toInt - x9.toInt).toNat < n → wp (fX9_movesAll_118 N n x1 x2 x4 x5 x6 x7 x8 x9 v_rowsOf v_columnsOf v_shapeRows v_shapeColumns v_row v_column v_below v_face v_high v_to v_pileSize) (cu9 (fun (wv_shapeRows : List Int32) (wv_shapeColumns : List Int32) (wv_row : List Int32) (wv_column : List Int32) (wv_below : List Int32) (wv_face : List Int32) (wv_high : List Int32) (wv_to : List Int32) (wv_pileSize : List Int32) => wv_shapeRows.length = 6 ∧ wv_shapeColumns.length = 6 ∧ wv_row.length = 192 ∧ wv_column.length = 192 ∧ wv_below.length = 192 ∧ wv_face.length = 192 ∧ wv_high.length = 32 ∧ wv_to.length = 32 ∧ wv_pileSize.length = 64 ∧ fr u_row wv_row A B9 ∧ fr u_col wv_column A B9 ∧ fr u_sR wv_shapeRows a9 b9 ∧ fr u_sC wv_shapeColumns a9 b9 ∧ fr u_bel wv_below A B9 ∧ fr u_fac wv_face A B9 ∧ lv9 v_rowsOf v_columnsOf wv_shapeRows wv_shapeColumns wv_row wv_column x1)) := by
  intro n
  induction n with
  | zero =>
    intro x1 x2 x4 x5 x6 x7 x8 x9 v_rowsOf v_columnsOf v_shapeRows v_shapeColumns v_row v_column v_below v_face v_high v_to v_pileSize h_0 h_1 h_2 h_3 h_4 h_5 h_6 h_7 h_8 h_9 h_10 h_11 h_12 h_13 h_14 h_15 h_16 h_17 h_18 h_19 h_22 h_23 h_24 h_25 h_26 h_27 h_28 h_29 h_30 h_31 h_32 h_33 h_34 hm
    exact absurd hm (by omega)
  | succ n ih =>
    intro x1 x2 x4 x5 x6 x7 x8 x9 v_rowsOf v_columnsOf v_shapeRows v_shapeColumns v_row v_column v_below v_face v_high v_to v_pileSize h_0 h_1 h_2 h_3 h_4 h_5 h_6 h_7 h_8 h_9 h_10 h_11 h_12 h_13 h_14 h_15 h_16 h_17 h_18 h_19 h_22 h_23 h_24 h_25 h_26 h_27 h_28 h_29 h_30 h_31 h_32 h_33 h_34 hm
    have m3 := (i_fl (a := v_rowsOf) (b := v_columnsOf) (by omega) (by omega) (by omega) (by omega)).2
    obtain ⟨l1, l2, l3, l4, l5, l6⟩ := id (show lv9 v_rowsOf v_columnsOf v_shapeRows v_shapeColumns v_row v_column x1 by assumption)
    refine wp_of (uf_X9_movesAll_118 _ _ _ _ _ _ _ _ _ _ _ _ _ _ _ _ _ _ _ _ _) ?_
    refine wp_bd1 (sf_X9_fields hN h_0 h_1 h_2 h_3) (fun r_15 ⟨q_1, q_2, q_3⟩ => ?_)
    refine wp_if (fun c_4 => ?_) (fun c_4 => ?_)
    ·
      have dc_4 := i_le c_4
      have n_5 : (0 : Int32).toInt = 0 := by decide
      exact sf_X9_movesAll_174_r (u_row := u_row) (u_col := u_col) (u_sR := u_sR) (u_sC := u_sC) (A := A) (B9 := B9) (a9 := a9) (b9 := b9) (u_bel := u_bel) (u_fac := u_fac) hN _ _ _ _ _ _ _ _ _ _ _ _ _ _ _ _ _ _ _ _ h_0 h_1 h_2 h_3 h_4 h_5 h_6 h_7 h_8 h_9 h_10 h_11 h_12 h_13 h_14 h_15 h_16 h_17 h_18 h_19 h_22 h_23 h_24 h_25 h_26 h_27 h_28 h_29 h_30 h_31 h_32 (by omega) (by omega) (by first | assumption | exact zn_nil (by omega) | (exfalso; omega)) (by omega)
    ·
      have dc_4 := i_nle c_4
      refine wp_in1 ?_
      refine wp_of (uf_X9_placeOf _ _ _ _ _ _) ?_
      have n_7 : (0 : Int32).toInt = 0 := by decide
      refine wp_ifp h_15 ?_
      have n_8 : (32 : Int32).toInt = 32 := by decide
      generalize hz_z : ((32 : Int32) * x1) = z
      have e_9 := i_mulLE (c := 32) (by decide) hz_z (by omega) (by omega)
      generalize hz_z__10 : (z + x9) = z__10
      have e_11 := i_addE hz_z__10 (by omega) (by omega)
      refine wp_ck (i_inb (by omega) (by omega)) ?_
      refine wp_so1 ?_
      show wp _ _
      refine wp_ifp h_15 ?_
      refine wp_of (uf_X9_movesAll_154 _ _ _ _ _ _ _ _ _ _ _ _ _ _ _ _ _ _ _ _ _ _ _ _ _) ?_
      refine wp_in1 ?_
      refine wp_of (uf_X9_placeOf _ _ _ _ _ _) ?_
      refine wp_ifn (by decide) ?_
      generalize hz_z__13 : ((32 : Int32) * x1) = z__13
      have e_14 := i_mulLE (c := 32) (by decide) hz_z__13 (by omega) (by omega)
      generalize hz_z__15 : (z__13 + x9) = z__15
      have e_16 := i_addE hz_z__15 (by omega) (by omega)
      refine wp_ck (i_inb (by omega) (by omega)) ?_
      refine wp_so1 ?_
      show wp _ _
      refine wp_in1 ?_
      refine wp_of (uf_X9_pileAt _ _ _) ?_
      refine wp_so1 ?_
      show wp _ _
      have n_17 : (8 : Int32).toInt = 8 := by decide
      obtain ⟨e_18, e1_18⟩ := zn_get l6 (i := z__15) (by omega) (by omega) (by omega) (by omega)
      generalize hz_z__19 : ((8 : Int32) * (mm_ig v_column z__15)) = z__19
      have e_20 := i_mulLE (c := 8) (by decide) hz_z__19 (by omega) (by omega)
      obtain ⟨e_21, e1_21⟩ := zn_get l5 (i := z__10) (by omega) (by omega) (by omega) (by omega)
      generalize hz_z__22 : (z__19 + (mm_ig v_row z__10)) = z__22
      have e_23 := i_addE hz_z__22 (by omega) (by omega)
      refine wp_ck (i_inb (by omega) (by omega)) ?_
      refine wp_nm (fun y_26 _ => ?_)
      refine wp_ck (i_inb (by omega) (by omega)) ?_
      refine wp_nm (fun l_28 h_l_28 => ?_)
      have nl_l_28 : l_28.length = 64 := by rw [h_l_28, is_len]; assumption
      have n_24 : (1 : Int32).toInt = 1 := by decide
      refine wp_nm (fun y_29 h_y_29 => ?_)
      have e_25 := i_addE h_y_29.symm (by omega) (by omega)
      exact ih _ _ _ _ _ _ _ _ _ _ _ _ _ _ _ _ _ _ _ h_0 h_1 h_2 h_3 h_4 h_5 h_6 h_7 h_8 h_9 h_10 h_11 nl_l_28 h_13 h_14 h_15 h_16 h_17 h_18 h_19 h_22 h_23 h_24 h_25 h_26 h_27 h_28 h_29 h_30 h_31 h_32 (by omega) (by omega) (by omega)

theorem uf_X9_movesAll_94 (N : Nat) (n : Nat) (x1 : Int32) (x2 : Int32) (x4 : Int32) (x5 : Int32) (x6 : Int32) (x7 : Int32) (x8 : Int32) (x9 : Int32) (v_rowsOf : Int32) (v_columnsOf : Int32) (v_shapeRows : List Int32) (v_shapeColumns : List Int32) (v_row : List Int32) (v_column : List Int32) (v_below : List Int32) (v_face : List Int32) (v_high : List Int32) (v_to : List Int32) (v_pileSize : List Int32) : fX9_movesAll_94 N (n + 1) x1 x2 x4 x5 x6 x7 x8 x9 v_rowsOf v_columnsOf v_shapeRows v_shapeColumns v_row v_column v_below v_face v_high v_to v_pileSize = 
    if (64 : Int32) ≤ x9 then
    (fX9_movesAll_118 N N x1 x2 x4 x5 x6 x7 x8 (0 : Int32) v_rowsOf v_columnsOf v_shapeRows v_shapeColumns v_row v_column v_below v_face v_high v_to v_pileSize)
    else (mm_ck (mm_inb x9 v_pileSize.length) (mm_nm (mm_is v_pileSize x9 (0 : Int32)) (fun (l_13 : List Int32) =>
    mm_nm (x9 + (1 : Int32)) (fun (y_14 : Int32) =>
    fX9_movesAll_94 N n x1 x2 x4 x5 x6 x7 x8 y_14 v_rowsOf v_columnsOf v_shapeRows v_shapeColumns v_row v_column v_below v_face v_high v_to l_13)))) := rfl

set_option maxHeartbeats 4000000 in
set_option maxRecDepth 20000 in
theorem sf_X9_movesAll_94_r {N : Nat} (hN : 700 ≤ N) {u_row : List Int32} {u_col : List Int32} {u_sR : List Int32} {u_sC : List Int32} {A : Int} {B9 : Int} {a9 : Int} {b9 : Int} {u_bel : List Int32} {u_fac : List Int32} : ∀ (n : Nat) (x1 : Int32) (x2 : Int32) (x4 : Int32) (x5 : Int32) (x6 : Int32) (x7 : Int32) (x8 : Int32) (x9 : Int32) (v_rowsOf : Int32) (v_columnsOf : Int32) (v_shapeRows : List Int32) (v_shapeColumns : List Int32) (v_row : List Int32) (v_column : List Int32) (v_below : List Int32) (v_face : List Int32) (v_high : List Int32) (v_to : List Int32) (v_pileSize : List Int32), 1 ≤ v_rowsOf.toInt → v_rowsOf.toInt ≤ 4 → 1 ≤ v_columnsOf.toInt → v_columnsOf.toInt ≤ 8 → v_shapeRows.length = 6 → v_shapeColumns.length = 6 → v_row.length = 192 → v_column.length = 192 → v_below.length = 192 → v_face.length = 192 → v_high.length = 32 → v_to.length = 32 → v_pileSize.length = 64 → 0 ≤ x1.toInt → x1.toInt ≤ 5 → (x4 = (0 : Int32)) → 1 ≤ x2.toInt → x2.toInt < x7.toInt → x7.toInt = (mm_ig v_shapeRows x1).toInt → (x5.toInt = 1 ∧ x8.toInt = x2.toInt) ∨ (x5.toInt = 0 ∧ x8.toInt = min 0 (2 * x2.toInt - x7.toInt)) → fr u_row v_row A B9 → fr u_col v_column A B9 → fr u_sR v_shapeRows a9 b9 → fr u_sC v_shapeColumns a9 b9 → A ≤ 32 * x1.toInt → 32 * x1.toInt + 32 ≤ B9 → a9 ≤ x1.toInt → x1.toInt < b9 → fr u_bel v_below A B9 → fr u_fac v_face A B9 → lv9 v_rowsOf v_columnsOf v_shapeRows v_shapeColumns v_row v_column x1 → 0 ≤ x9.toInt → x9.toInt ≤ 64 → (64 - x9.toInt).toNat < n → wp (fX9_movesAll_94 N n x1 x2 x4 x5 x6 x7 x8 x9 v_rowsOf v_columnsOf v_shapeRows v_shapeColumns v_row v_column v_below v_face v_high v_to v_pileSize) (cu9 (fun (wv_shapeRows : List Int32) (wv_shapeColumns : List Int32) (wv_row : List Int32) (wv_column : List Int32) (wv_below : List Int32) (wv_face : List Int32) (wv_high : List Int32) (wv_to : List Int32) (wv_pileSize : List Int32) => wv_shapeRows.length = 6 ∧ wv_shapeColumns.length = 6 ∧ wv_row.length = 192 ∧ wv_column.length = 192 ∧ wv_below.length = 192 ∧ wv_face.length = 192 ∧ wv_high.length = 32 ∧ wv_to.length = 32 ∧ wv_pileSize.length = 64 ∧ fr u_row wv_row A B9 ∧ fr u_col wv_column A B9 ∧ fr u_sR wv_shapeRows a9 b9 ∧ fr u_sC wv_shapeColumns a9 b9 ∧ fr u_bel wv_below A B9 ∧ fr u_fac wv_face A B9 ∧ lv9 v_rowsOf v_columnsOf wv_shapeRows wv_shapeColumns wv_row wv_column x1)) := by
  intro n
  induction n with
  | zero =>
    intro x1 x2 x4 x5 x6 x7 x8 x9 v_rowsOf v_columnsOf v_shapeRows v_shapeColumns v_row v_column v_below v_face v_high v_to v_pileSize h_0 h_1 h_2 h_3 h_4 h_5 h_6 h_7 h_8 h_9 h_10 h_11 h_12 h_13 h_14 h_15 h_16 h_17 h_18 h_19 h_22 h_23 h_24 h_25 h_26 h_27 h_28 h_29 h_30 h_31 h_32 h_33 h_34 hm
    exact absurd hm (by omega)
  | succ n ih =>
    intro x1 x2 x4 x5 x6 x7 x8 x9 v_rowsOf v_columnsOf v_shapeRows v_shapeColumns v_row v_column v_below v_face v_high v_to v_pileSize h_0 h_1 h_2 h_3 h_4 h_5 h_6 h_7 h_8 h_9 h_10 h_11 h_12 h_13 h_14 h_15 h_16 h_17 h_18 h_19 h_22 h_23 h_24 h_25 h_26 h_27 h_28 h_29 h_30 h_31 h_32 h_33 h_34 hm
    have m3 := (i_fl (a := v_rowsOf) (b := v_columnsOf) (by omega) (by omega) (by omega) (by omega)).2
    refine wp_of (uf_X9_movesAll_94 _ _ _ _ _ _ _ _ _ _ _ _ _ _ _ _ _ _ _ _ _) ?_
    have n_2 : (64 : Int32).toInt = 64 := by decide
    refine wp_if (fun c_1 => ?_) (fun c_1 => ?_)
    ·
      have dc_1 := i_le c_1
      have n_3 : (0 : Int32).toInt = 0 := by decide
      exact sf_X9_movesAll_118_r (u_row := u_row) (u_col := u_col) (u_sR := u_sR) (u_sC := u_sC) (A := A) (B9 := B9) (a9 := a9) (b9 := b9) (u_bel := u_bel) (u_fac := u_fac) hN _ _ _ _ _ _ _ _ _ _ _ _ _ _ _ _ _ _ _ _ h_0 h_1 h_2 h_3 h_4 h_5 h_6 h_7 h_8 h_9 h_10 h_11 h_12 h_13 h_14 h_15 h_16 h_17 h_18 h_19 h_22 h_23 h_24 h_25 h_26 h_27 h_28 h_29 h_30 h_31 h_32 (by omega) (by omega) (by omega)
    ·
      have dc_1 := i_nle c_1
      refine wp_ck (i_inb (by omega) (by omega)) ?_
      have n_4 : (0 : Int32).toInt = 0 := by decide
      refine wp_nm (fun l_13 h_l_13 => ?_)
      have nl_l_13 : l_13.length = 64 := by rw [h_l_13, is_len]; assumption
      have n_5 : (1 : Int32).toInt = 1 := by decide
      refine wp_nm (fun y_14 h_y_14 => ?_)
      have e_6 := i_addE h_y_14.symm (by omega) (by omega)
      exact ih _ _ _ _ _ _ _ _ _ _ _ _ _ _ _ _ _ _ _ h_0 h_1 h_2 h_3 h_4 h_5 h_6 h_7 h_8 h_9 h_10 h_11 nl_l_13 h_13 h_14 h_15 h_16 h_17 h_18 h_19 h_22 h_23 h_24 h_25 h_26 h_27 h_28 h_29 h_30 h_31 h_32 (by omega) (by omega) (by omega)

theorem sf_X9_movesAll_94_rs {N : Nat} (hN : 700 ≤ N) {u_row : List Int32} {u_col : List Int32} {u_sR : List Int32} {u_sC : List Int32} {A : Int} {B9 : Int} {a9 : Int} {b9 : Int} {u_bel : List Int32} {u_fac : List Int32} : ∀ (n : Nat) (x1 : Int32) (x2 : Int32) (x4 : Int32) (x5 : Int32) (x6 : Int32) (x7 : Int32) (x8 : Int32) (x9 : Int32) (v_rowsOf : Int32) (v_columnsOf : Int32) (v_shapeRows : List Int32) (v_shapeColumns : List Int32) (v_row : List Int32) (v_column : List Int32) (v_below : List Int32) (v_face : List Int32) (v_high : List Int32) (v_to : List Int32) (v_pileSize : List Int32), 1 ≤ v_rowsOf.toInt → v_rowsOf.toInt ≤ 4 → 1 ≤ v_columnsOf.toInt → v_columnsOf.toInt ≤ 8 → v_shapeRows.length = 6 → v_shapeColumns.length = 6 → v_row.length = 192 → v_column.length = 192 → v_below.length = 192 → v_face.length = 192 → v_high.length = 32 → v_to.length = 32 → v_pileSize.length = 64 → 0 ≤ x1.toInt → x1.toInt ≤ 5 → (x4 = (0 : Int32)) → 1 ≤ x2.toInt → x2.toInt < x7.toInt → x7.toInt = (mm_ig v_shapeRows x1).toInt → ¬ (x5 = (0 : Int32)) → x5.toInt = 1 → x8.toInt = x2.toInt → fr u_row v_row A B9 → fr u_col v_column A B9 → fr u_sR v_shapeRows a9 b9 → fr u_sC v_shapeColumns a9 b9 → A ≤ 32 * x1.toInt → 32 * x1.toInt + 32 ≤ B9 → a9 ≤ x1.toInt → x1.toInt < b9 → fr u_bel v_below A B9 → fr u_fac v_face A B9 → lv9 v_rowsOf v_columnsOf v_shapeRows v_shapeColumns v_row v_column x1 → 0 ≤ x9.toInt → x9.toInt ≤ 64 → (64 - x9.toInt).toNat < n → wp (fX9_movesAll_94 N n x1 x2 x4 x5 x6 x7 x8 x9 v_rowsOf v_columnsOf v_shapeRows v_shapeColumns v_row v_column v_below v_face v_high v_to v_pileSize) (cu9 (fun (wv_shapeRows : List Int32) (wv_shapeColumns : List Int32) (wv_row : List Int32) (wv_column : List Int32) (wv_below : List Int32) (wv_face : List Int32) (wv_high : List Int32) (wv_to : List Int32) (wv_pileSize : List Int32) => wv_shapeRows.length = 6 ∧ wv_shapeColumns.length = 6 ∧ wv_row.length = 192 ∧ wv_column.length = 192 ∧ wv_below.length = 192 ∧ wv_face.length = 192 ∧ wv_high.length = 32 ∧ wv_to.length = 32 ∧ wv_pileSize.length = 64 ∧ fr u_row wv_row A B9 ∧ fr u_col wv_column A B9 ∧ fr u_sR wv_shapeRows a9 b9 ∧ fr u_sC wv_shapeColumns a9 b9 ∧ fr u_bel wv_below A B9 ∧ fr u_fac wv_face A B9 ∧ lv9 v_rowsOf v_columnsOf wv_shapeRows wv_shapeColumns wv_row wv_column x1)) :=
  fun n x1 x2 x4 x5 x6 x7 x8 x9 v_rowsOf v_columnsOf v_shapeRows v_shapeColumns v_row v_column v_below v_face v_high v_to v_pileSize h_0 h_1 h_2 h_3 h_4 h_5 h_6 h_7 h_8 h_9 h_10 h_11 h_12 h_13 h_14 h_15 h_16 h_17 h_18 h_19 h_20 h_21 h_22 h_23 h_24 h_25 h_26 h_27 h_28 h_29 h_30 h_31 h_32 h_33 h_34 hm => sf_X9_movesAll_94_r hN n x1 x2 x4 x5 x6 x7 x8 x9 v_rowsOf v_columnsOf v_shapeRows v_shapeColumns v_row v_column v_below v_face v_high v_to v_pileSize h_0 h_1 h_2 h_3 h_4 h_5 h_6 h_7 h_8 h_9 h_10 h_11 h_12 h_13 h_14 h_15 h_16 h_17 h_18 (Or.inl ⟨h_20, h_21⟩) h_22 h_23 h_24 h_25 h_26 h_27 h_28 h_29 h_30 h_31 h_32 h_33 h_34 hm
theorem sf_X9_movesAll_94_re {N : Nat} (hN : 700 ≤ N) {u_row : List Int32} {u_col : List Int32} {u_sR : List Int32} {u_sC : List Int32} {A : Int} {B9 : Int} {a9 : Int} {b9 : Int} {u_bel : List Int32} {u_fac : List Int32} : ∀ (n : Nat) (x1 : Int32) (x2 : Int32) (x4 : Int32) (x5 : Int32) (x6 : Int32) (x7 : Int32) (x8 : Int32) (x9 : Int32) (v_rowsOf : Int32) (v_columnsOf : Int32) (v_shapeRows : List Int32) (v_shapeColumns : List Int32) (v_row : List Int32) (v_column : List Int32) (v_below : List Int32) (v_face : List Int32) (v_high : List Int32) (v_to : List Int32) (v_pileSize : List Int32), 1 ≤ v_rowsOf.toInt → v_rowsOf.toInt ≤ 4 → 1 ≤ v_columnsOf.toInt → v_columnsOf.toInt ≤ 8 → v_shapeRows.length = 6 → v_shapeColumns.length = 6 → v_row.length = 192 → v_column.length = 192 → v_below.length = 192 → v_face.length = 192 → v_high.length = 32 → v_to.length = 32 → v_pileSize.length = 64 → 0 ≤ x1.toInt → x1.toInt ≤ 5 → (x4 = (0 : Int32)) → 1 ≤ x2.toInt → x2.toInt < x7.toInt → x7.toInt = (mm_ig v_shapeRows x1).toInt → (x5 = (0 : Int32)) → x5.toInt = 0 → x8.toInt = min 0 (2 * x2.toInt - x7.toInt) → fr u_row v_row A B9 → fr u_col v_column A B9 → fr u_sR v_shapeRows a9 b9 → fr u_sC v_shapeColumns a9 b9 → A ≤ 32 * x1.toInt → 32 * x1.toInt + 32 ≤ B9 → a9 ≤ x1.toInt → x1.toInt < b9 → fr u_bel v_below A B9 → fr u_fac v_face A B9 → lv9 v_rowsOf v_columnsOf v_shapeRows v_shapeColumns v_row v_column x1 → 0 ≤ x9.toInt → x9.toInt ≤ 64 → (64 - x9.toInt).toNat < n → wp (fX9_movesAll_94 N n x1 x2 x4 x5 x6 x7 x8 x9 v_rowsOf v_columnsOf v_shapeRows v_shapeColumns v_row v_column v_below v_face v_high v_to v_pileSize) (cu9 (fun (wv_shapeRows : List Int32) (wv_shapeColumns : List Int32) (wv_row : List Int32) (wv_column : List Int32) (wv_below : List Int32) (wv_face : List Int32) (wv_high : List Int32) (wv_to : List Int32) (wv_pileSize : List Int32) => wv_shapeRows.length = 6 ∧ wv_shapeColumns.length = 6 ∧ wv_row.length = 192 ∧ wv_column.length = 192 ∧ wv_below.length = 192 ∧ wv_face.length = 192 ∧ wv_high.length = 32 ∧ wv_to.length = 32 ∧ wv_pileSize.length = 64 ∧ fr u_row wv_row A B9 ∧ fr u_col wv_column A B9 ∧ fr u_sR wv_shapeRows a9 b9 ∧ fr u_sC wv_shapeColumns a9 b9 ∧ fr u_bel wv_below A B9 ∧ fr u_fac wv_face A B9 ∧ lv9 v_rowsOf v_columnsOf wv_shapeRows wv_shapeColumns wv_row wv_column x1)) :=
  fun n x1 x2 x4 x5 x6 x7 x8 x9 v_rowsOf v_columnsOf v_shapeRows v_shapeColumns v_row v_column v_below v_face v_high v_to v_pileSize h_0 h_1 h_2 h_3 h_4 h_5 h_6 h_7 h_8 h_9 h_10 h_11 h_12 h_13 h_14 h_15 h_16 h_17 h_18 h_19 h_20 h_21 h_22 h_23 h_24 h_25 h_26 h_27 h_28 h_29 h_30 h_31 h_32 h_33 h_34 hm => sf_X9_movesAll_94_r hN n x1 x2 x4 x5 x6 x7 x8 x9 v_rowsOf v_columnsOf v_shapeRows v_shapeColumns v_row v_column v_below v_face v_high v_to v_pileSize h_0 h_1 h_2 h_3 h_4 h_5 h_6 h_7 h_8 h_9 h_10 h_11 h_12 h_13 h_14 h_15 h_16 h_17 h_18 (Or.inr ⟨h_20, h_21⟩) h_22 h_23 h_24 h_25 h_26 h_27 h_28 h_29 h_30 h_31 h_32 h_33 h_34 hm
