/-! safe -/
theorem uf_X9_copies_128 (N : Nat) (n : Nat) (x1 : Int32) (x2 : Int32) (x3 : Int32) (v_shapeRows : List Int32) (v_shapeColumns : List Int32) (v_row : List Int32) (v_column : List Int32) (v_below : List Int32) (v_face : List Int32) (v_worn : List Int32) (v_lastBend : List Int32) : fX9_copies_128 N (n + 1) x1 x2 x3 v_shapeRows v_shapeColumns v_row v_column v_below v_face v_worn v_lastBend = 
    if (64 : Int32) ≤ x3 then
    (some (v_shapeRows, v_shapeColumns, v_row, v_column, v_below, v_face, v_worn, v_lastBend))
    else (mm_ck (mm_inb (((64 : Int32) * x1) + x3) v_worn.length) (mm_nm ((mm_ig v_worn (((64 : Int32) * x1) + x3))) (fun (y_29 : Int32) =>
    mm_ck (mm_inb (((64 : Int32) * x2) + x3) v_worn.length) (mm_nm (mm_is v_worn (((64 : Int32) * x2) + x3) y_29) (fun (l_31 : List Int32) =>
    mm_ck (mm_inb (((64 : Int32) * x1) + x3) v_lastBend.length) (mm_nm ((mm_ig v_lastBend (((64 : Int32) * x1) + x3))) (fun (y_33 : Int32) =>
    mm_ck (mm_inb (((64 : Int32) * x2) + x3) v_lastBend.length) (mm_nm (mm_is v_lastBend (((64 : Int32) * x2) + x3) y_33) (fun (l_35 : List Int32) =>
    mm_nm (x3 + (1 : Int32)) (fun (y_36 : Int32) =>
    fX9_copies_128 N n x1 x2 y_36 v_shapeRows v_shapeColumns v_row v_column v_below v_face l_31 l_35)))))))))) := rfl

set_option maxHeartbeats 4000000 in
set_option maxRecDepth 20000 in
theorem sf_X9_copies_128 {N : Nat} (hN : 700 ≤ N) {u_row : List Int32} {u_col : List Int32} {u_sR : List Int32} {u_sC : List Int32} {A : Int} {B9 : Int} {a9 : Int} {b9 : Int} {R9 : Int32} {C9 : Int32} : ∀ (n : Nat) (x1 : Int32) (x2 : Int32) (x3 : Int32) (v_shapeRows : List Int32) (v_shapeColumns : List Int32) (v_row : List Int32) (v_column : List Int32) (v_below : List Int32) (v_face : List Int32) (v_worn : List Int32) (v_lastBend : List Int32), v_shapeRows.length = 6 → v_shapeColumns.length = 6 → v_row.length = 192 → v_column.length = 192 → v_below.length = 192 → v_face.length = 192 → v_worn.length = 384 → v_lastBend.length = 384 → (mm_ig v_shapeRows x2).toInt = (mm_ig v_shapeRows x1).toInt → (mm_ig v_shapeColumns x2).toInt = (mm_ig v_shapeColumns x1).toInt → 0 ≤ x1.toInt → x1.toInt ≤ 5 → 0 ≤ x2.toInt → x2.toInt ≤ 5 → (x1.toInt < x2.toInt ∨ x2.toInt < x1.toInt) → 1 ≤ R9.toInt * C9.toInt → R9.toInt * C9.toInt ≤ 32 → fr u_row v_row A B9 → fr u_col v_column A B9 → fr u_sR v_shapeRows a9 b9 → fr u_sC v_shapeColumns a9 b9 → A ≤ 32 * x2.toInt → 32 * x2.toInt + 32 ≤ B9 → a9 ≤ x2.toInt → x2.toInt < b9 → lv9 R9 C9 v_shapeRows v_shapeColumns v_row v_column x2 → 0 ≤ x3.toInt → x3.toInt ≤ 64 → (64 - x3.toInt).toNat < n → wp (fX9_copies_128 N n x1 x2 x3 v_shapeRows v_shapeColumns v_row v_column v_below v_face v_worn v_lastBend) (cu8 (fun (wv_shapeRows : List Int32) (wv_shapeColumns : List Int32) (wv_row : List Int32) (wv_column : List Int32) (wv_below : List Int32) (wv_face : List Int32) (wv_worn : List Int32) (wv_lastBend : List Int32) => wv_shapeRows.length = 6 ∧ wv_shapeColumns.length = 6 ∧ wv_row.length = 192 ∧ wv_column.length = 192 ∧ wv_below.length = 192 ∧ wv_face.length = 192 ∧ wv_worn.length = 384 ∧ wv_lastBend.length = 384 ∧ fr u_row wv_row A B9 ∧ fr u_col wv_column A B9 ∧ fr u_sR wv_shapeRows a9 b9 ∧ fr u_sC wv_shapeColumns a9 b9 ∧ lv9 R9 C9 wv_shapeRows wv_shapeColumns wv_row wv_column x2 ∧ (mm_ig wv_shapeRows x2).toInt = (mm_ig v_shapeRows x1).toInt ∧ (mm_ig wv_shapeColumns x2).toInt = (mm_ig v_shapeColumns x1).toInt)) := by
  intro n
  induction n with
  | zero =>
    intro x1 x2 x3 v_shapeRows v_shapeColumns v_row v_column v_below v_face v_worn v_lastBend h_0 h_1 h_2 h_3 h_4 h_5 h_6 h_7 h_8 h_9 h_10 h_11 h_12 h_13 h_14 h_15 h_16 h_17 h_18 h_19 h_20 h_21 h_22 h_23 h_24 h_25 h_26 h_27 hm
    exact absurd hm (by omega)
  | succ n ih =>
    intro x1 x2 x3 v_shapeRows v_shapeColumns v_row v_column v_below v_face v_worn v_lastBend h_0 h_1 h_2 h_3 h_4 h_5 h_6 h_7 h_8 h_9 h_10 h_11 h_12 h_13 h_14 h_15 h_16 h_17 h_18 h_19 h_20 h_21 h_22 h_23 h_24 h_25 h_26 h_27 hm
    refine wp_of (uf_X9_copies_128 _ _ _ _ _ _ _ _ _ _ _ _ _) ?_
    have n_2 : (64 : Int32).toInt = 64 := by decide
    refine wp_if (fun c_1 => ?_) (fun c_1 => ?_)
    ·
      have dc_1 := i_le c_1
      exact wp_so8 ⟨h_0, h_1, h_2, h_3, h_4, h_5, h_6, h_7, h_17, h_18, h_19, h_20, h_25, h_8, h_9⟩
    ·
      have dc_1 := i_nle c_1
      generalize hz_z : ((64 : Int32) * x1) = z
      have e_3 := i_mulLE (c := 64) (by decide) hz_z (by omega) (by omega)
      generalize hz_z__4 : (z + x3) = z__4
      have e_5 := i_addE hz_z__4 (by omega) (by omega)
      refine wp_ck (i_inb (by omega) (by omega)) ?_
      refine wp_nm (fun y_29 h_y_29 => ?_)
      have t_y_29 : y_29.toInt = ((mm_ig v_worn z__4)).toInt := by rw [h_y_29]
      generalize hz_z__6 : ((64 : Int32) * x2) = z__6
      have e_7 := i_mulLE (c := 64) (by decide) hz_z__6 (by omega) (by omega)
      generalize hz_z__8 : (z__6 + x3) = z__8
      have e_9 := i_addE hz_z__8 (by omega) (by omega)
      refine wp_ck (i_inb (by omega) (by omega)) ?_
      refine wp_nm (fun l_31 h_l_31 => ?_)
      have nl_l_31 : l_31.length = 384 := by rw [h_l_31, is_len]; assumption
      refine wp_ck (i_inb (by omega) (by omega)) ?_
      refine wp_nm (fun y_33 h_y_33 => ?_)
      have t_y_33 : y_33.toInt = ((mm_ig v_lastBend z__4)).toInt := by rw [h_y_33]
      refine wp_ck (i_inb (by omega) (by omega)) ?_
      refine wp_nm (fun l_35 h_l_35 => ?_)
      have nl_l_35 : l_35.length = 384 := by rw [h_l_35, is_len]; assumption
      have n_10 : (1 : Int32).toInt = 1 := by decide
      refine wp_nm (fun y_36 h_y_36 => ?_)
      have e_11 := i_addE h_y_36.symm (by omega) (by omega)
      refine wp_cu8 (ih _ _ _ _ _ _ _ _ _ _ _ h_0 h_1 h_2 h_3 h_4 h_5 nl_l_31 nl_l_35 h_8 h_9 h_10 h_11 h_12 h_13 h_14 h_15 h_16 h_17 h_18 h_19 h_20 h_21 h_22 h_23 h_24 h_25 (by omega) (by omega) (by omega)) (fun z_wv_shapeRows z_wv_shapeColumns z_wv_row z_wv_column z_wv_below z_wv_face z_wv_worn z_wv_lastBend ⟨q_12, q_13, q_14, q_15, q_16, q_17, q_18, q_19, q_20, q_21, q_22, q_23, q_24, q_25, q_26⟩ => ?_)
      exact ⟨(by assumption), (by assumption), (by assumption), (by assumption), (by assumption), (by assumption), (by assumption), (by assumption), (by first | assumption | exact fr_refl _ _ _), (by first | assumption | exact fr_refl _ _ _), (by first | assumption | exact fr_refl _ _ _), (by first | assumption | exact fr_refl _ _ _), (by first | assumption | exact (show lvI _ _ _ _ _ _ _ by assumption) _ (by omega) | exact lv9_fr (by assumption) (by assumption) (by assumption) (by assumption) (by assumption) (by omega) (by omega) (by omega) (by omega) (by omega) | exact ⟨by omega, by omega, by omega, by omega, (by first | assumption | exact zn_nil (by omega) | (exfalso; omega)), (by first | assumption | exact zn_nil (by omega) | (exfalso; omega))⟩), (by omega), (by omega)⟩

theorem uf_X9_copies_26 (N : Nat) (n : Nat) (x1 : Int32) (x2 : Int32) (x3 : Int32) (v_shapeRows : List Int32) (v_shapeColumns : List Int32) (v_row : List Int32) (v_column : List Int32) (v_below : List Int32) (v_face : List Int32) (v_worn : List Int32) (v_lastBend : List Int32) : fX9_copies_26 N (n + 1) x1 x2 x3 v_shapeRows v_shapeColumns v_row v_column v_below v_face v_worn v_lastBend = 
    if (32 : Int32) ≤ x3 then
    (fX9_copies_128 N N x1 x2 (0 : Int32) v_shapeRows v_shapeColumns v_row v_column v_below v_face v_worn v_lastBend)
    else (mm_ck (mm_inb (((32 : Int32) * x1) + x3) v_row.length) (mm_nm ((mm_ig v_row (((32 : Int32) * x1) + x3))) (fun (y_11 : Int32) =>
    mm_ck (mm_inb (((32 : Int32) * x2) + x3) v_row.length) (mm_nm (mm_is v_row (((32 : Int32) * x2) + x3) y_11) (fun (l_13 : List Int32) =>
    mm_ck (mm_inb (((32 : Int32) * x1) + x3) v_column.length) (mm_nm ((mm_ig v_column (((32 : Int32) * x1) + x3))) (fun (y_15 : Int32) =>
    mm_ck (mm_inb (((32 : Int32) * x2) + x3) v_column.length) (mm_nm (mm_is v_column (((32 : Int32) * x2) + x3) y_15) (fun (l_17 : List Int32) =>
    mm_ck (mm_inb (((32 : Int32) * x1) + x3) v_below.length) (mm_nm ((mm_ig v_below (((32 : Int32) * x1) + x3))) (fun (y_19 : Int32) =>
    mm_ck (mm_inb (((32 : Int32) * x2) + x3) v_below.length) (mm_nm (mm_is v_below (((32 : Int32) * x2) + x3) y_19) (fun (l_21 : List Int32) =>
    mm_ck (mm_inb (((32 : Int32) * x1) + x3) v_face.length) (mm_nm ((mm_ig v_face (((32 : Int32) * x1) + x3))) (fun (y_23 : Int32) =>
    mm_ck (mm_inb (((32 : Int32) * x2) + x3) v_face.length) (mm_nm (mm_is v_face (((32 : Int32) * x2) + x3) y_23) (fun (l_25 : List Int32) =>
    mm_nm (x3 + (1 : Int32)) (fun (y_26 : Int32) =>
    fX9_copies_26 N n x1 x2 y_26 v_shapeRows v_shapeColumns l_13 l_17 l_21 l_25 v_worn v_lastBend)))))))))))))))))) := rfl

set_option maxHeartbeats 4000000 in
set_option maxRecDepth 20000 in
theorem sf_X9_copies_26_b {N : Nat} (hN : 700 ≤ N) {u_row : List Int32} {u_col : List Int32} {u_sR : List Int32} {u_sC : List Int32} {A : Int} {B9 : Int} {a9 : Int} {b9 : Int} {R9 : Int32} {C9 : Int32} : ∀ (n : Nat) (x1 : Int32) (x2 : Int32) (x3 : Int32) (v_shapeRows : List Int32) (v_shapeColumns : List Int32) (v_row : List Int32) (v_column : List Int32) (v_below : List Int32) (v_face : List Int32) (v_worn : List Int32) (v_lastBend : List Int32), v_shapeRows.length = 6 → v_shapeColumns.length = 6 → v_row.length = 192 → v_column.length = 192 → v_below.length = 192 → v_face.length = 192 → v_worn.length = 384 → v_lastBend.length = 384 → (mm_ig v_shapeRows x2).toInt = (mm_ig v_shapeRows x1).toInt → (mm_ig v_shapeColumns x2).toInt = (mm_ig v_shapeColumns x1).toInt → 0 ≤ x1.toInt → x1.toInt ≤ 5 → 0 ≤ x2.toInt → x2.toInt ≤ 5 → (x1.toInt < x2.toInt ∨ x2.toInt < x1.toInt) → 1 ≤ R9.toInt * C9.toInt → R9.toInt * C9.toInt ≤ 32 → fr u_row v_row A B9 → fr u_col v_column A B9 → fr u_sR v_shapeRows a9 b9 → fr u_sC v_shapeColumns a9 b9 → A ≤ 32 * x2.toInt → 32 * x2.toInt + 32 ≤ B9 → a9 ≤ x2.toInt → x2.toInt < b9 → 1 ≤ (mm_ig v_shapeRows x2).toInt → (mm_ig v_shapeRows x2).toInt ≤ 4 → 1 ≤ (mm_ig v_shapeColumns x2).toInt → (mm_ig v_shapeColumns x2).toInt ≤ 8 → 0 ≤ x3.toInt → x3.toInt ≤ 32 → R9.toInt * C9.toInt ≤ x3.toInt → zn v_row (32 * x2.toInt) (32 * x2.toInt + R9.toInt * C9.toInt) 0 (mm_ig v_shapeRows x2).toInt → zn v_column (32 * x2.toInt) (32 * x2.toInt + R9.toInt * C9.toInt) 0 (mm_ig v_shapeColumns x2).toInt → (32 - x3.toInt).toNat < n → wp (fX9_copies_26 N n x1 x2 x3 v_shapeRows v_shapeColumns v_row v_column v_below v_face v_worn v_lastBend) (cu8 (fun (wv_shapeRows : List Int32) (wv_shapeColumns : List Int32) (wv_row : List Int32) (wv_column : List Int32) (wv_below : List Int32) (wv_face : List Int32) (wv_worn : List Int32) (wv_lastBend : List Int32) => wv_shapeRows.length = 6 ∧ wv_shapeColumns.length = 6 ∧ wv_row.length = 192 ∧ wv_column.length = 192 ∧ wv_below.length = 192 ∧ wv_face.length = 192 ∧ wv_worn.length = 384 ∧ wv_lastBend.length = 384 ∧ fr u_row wv_row A B9 ∧ fr u_col wv_column A B9 ∧ fr u_sR wv_shapeRows a9 b9 ∧ fr u_sC wv_shapeColumns a9 b9 ∧ lv9 R9 C9 wv_shapeRows wv_shapeColumns wv_row wv_column x2 ∧ (mm_ig wv_shapeRows x2).toInt = (mm_ig v_shapeRows x1).toInt ∧ (mm_ig wv_shapeColumns x2).toInt = (mm_ig v_shapeColumns x1).toInt)) := by
  intro n
  induction n with
  | zero =>
    intro x1 x2 x3 v_shapeRows v_shapeColumns v_row v_column v_below v_face v_worn v_lastBend h_0 h_1 h_2 h_3 h_4 h_5 h_6 h_7 h_8 h_9 h_10 h_11 h_12 h_13 h_14 h_15 h_16 h_17 h_18 h_19 h_20 h_21 h_22 h_23 h_24 h_25 h_26 h_27 h_28 h_29 h_30 h_31 h_32 h_33 hm
    exact absurd hm (by omega)
  | succ n ih =>
    intro x1 x2 x3 v_shapeRows v_shapeColumns v_row v_column v_below v_face v_worn v_lastBend h_0 h_1 h_2 h_3 h_4 h_5 h_6 h_7 h_8 h_9 h_10 h_11 h_12 h_13 h_14 h_15 h_16 h_17 h_18 h_19 h_20 h_21 h_22 h_23 h_24 h_25 h_26 h_27 h_28 h_29 h_30 h_31 h_32 h_33 hm
    refine wp_of (uf_X9_copies_26 _ _ _ _ _ _ _ _ _ _ _ _ _) ?_
    have n_2 : (32 : Int32).toInt = 32 := by decide
    refine wp_if (fun c_1 => ?_) (fun c_1 => ?_)
    ·
      have dc_1 := i_le c_1
      have n_3 : (0 : Int32).toInt = 0 := by decide
      refine wp_cu8 (sf_X9_copies_128 (u_row := u_row) (u_col := u_col) (u_sR := u_sR) (u_sC := u_sC) (A := A) (B9 := B9) (a9 := a9) (b9 := b9) (R9 := R9) (C9 := C9) hN _ _ _ _ _ _ _ _ _ _ _ _ h_0 h_1 h_2 h_3 h_4 h_5 h_6 h_7 h_8 h_9 h_10 h_11 h_12 h_13 h_14 h_15 h_16 h_17 h_18 h_19 h_20 h_21 h_22 h_23 h_24 (by first | assumption | exact (show lvI _ _ _ _ _ _ _ by assumption) _ (by omega) | exact lv9_fr (by assumption) (by assumption) (by assumption) (by assumption) (by assumption) (by omega) (by omega) (by omega) (by omega) (by omega) | exact ⟨by omega, by omega, by omega, by omega, (by first | assumption | exact zn_nil (by omega) | exact zn_sub h_32 (by omega) (by omega) (by omega) (by omega) | (exfalso; omega)), (by first | assumption | exact zn_nil (by omega) | exact zn_sub h_33 (by omega) (by omega) (by omega) (by omega) | (exfalso; omega))⟩) (by omega) (by omega) (by omega)) (fun z_wv_shapeRows z_wv_shapeColumns z_wv_row z_wv_column z_wv_below z_wv_face z_wv_worn z_wv_lastBend ⟨q_4, q_5, q_6, q_7, q_8, q_9, q_10, q_11, q_12, q_13, q_14, q_15, q_16, q_17, q_18⟩ => ?_)
      exact ⟨(by assumption), (by assumption), (by assumption), (by assumption), (by assumption), (by assumption), (by assumption), (by assumption), (by first | assumption | exact fr_refl _ _ _), (by first | assumption | exact fr_refl _ _ _), (by first | assumption | exact fr_refl _ _ _), (by first | assumption | exact fr_refl _ _ _), (by first | assumption | exact (show lvI _ _ _ _ _ _ _ by assumption) _ (by omega) | exact lv9_fr (by assumption) (by assumption) (by assumption) (by assumption) (by assumption) (by omega) (by omega) (by omega) (by omega) (by omega) | exact ⟨by omega, by omega, by omega, by omega, (by first | assumption | exact zn_nil (by omega) | (exfalso; omega)), (by first | assumption | exact zn_nil (by omega) | (exfalso; omega))⟩), (by omega), (by omega)⟩
    ·
      have dc_1 := i_nle c_1
      generalize hz_z : ((32 : Int32) * x1) = z
      have e_19 := i_mulLE (c := 32) (by decide) hz_z (by omega) (by omega)
      generalize hz_z__20 : (z + x3) = z__20
      have e_21 := i_addE hz_z__20 (by omega) (by omega)
      refine wp_ck (i_inb (by omega) (by omega)) ?_
      refine wp_nm (fun y_11 h_y_11 => ?_)
      have t_y_11 : y_11.toInt = ((mm_ig v_row z__20)).toInt := by rw [h_y_11]
      generalize hz_z__23 : ((32 : Int32) * x2) = z__23
      have e_24 := i_mulLE (c := 32) (by decide) hz_z__23 (by omega) (by omega)
      generalize hz_z__25 : (z__23 + x3) = z__25
      have e_26 := i_addE hz_z__25 (by omega) (by omega)
      refine wp_ck (i_inb (by omega) (by omega)) ?_
      refine wp_nm (fun l_13 h_l_13 => ?_)
      have nl_l_13 : l_13.length = 192 := by rw [h_l_13, is_len]; assumption
      refine wp_ck (i_inb (by omega) (by omega)) ?_
      refine wp_nm (fun y_15 h_y_15 => ?_)
      have t_y_15 : y_15.toInt = ((mm_ig v_column z__20)).toInt := by rw [h_y_15]
      refine wp_ck (i_inb (by omega) (by omega)) ?_
      refine wp_nm (fun l_17 h_l_17 => ?_)
      have nl_l_17 : l_17.length = 192 := by rw [h_l_17, is_len]; assumption
      refine wp_ck (i_inb (by omega) (by omega)) ?_
      refine wp_nm (fun y_19 h_y_19 => ?_)
      have t_y_19 : y_19.toInt = ((mm_ig v_below z__20)).toInt := by rw [h_y_19]
      refine wp_ck (i_inb (by omega) (by omega)) ?_
      refine wp_nm (fun l_21 h_l_21 => ?_)
      have nl_l_21 : l_21.length = 192 := by rw [h_l_21, is_len]; assumption
      refine wp_ck (i_inb (by omega) (by omega)) ?_
      refine wp_nm (fun y_23 h_y_23 => ?_)
      have t_y_23 : y_23.toInt = ((mm_ig v_face z__20)).toInt := by rw [h_y_23]
      refine wp_ck (i_inb (by omega) (by omega)) ?_
      refine wp_nm (fun l_25 h_l_25 => ?_)
      have nl_l_25 : l_25.length = 192 := by rw [h_l_25, is_len]; assumption
      have n_28 : (1 : Int32).toInt = 1 := by decide
      refine wp_nm (fun y_26 h_y_26 => ?_)
      have e_29 := i_addE h_y_26.symm (by omega) (by omega)
      refine wp_cu8 (ih _ _ _ _ _ _ _ _ _ _ _ h_0 h_1 nl_l_13 nl_l_17 nl_l_21 nl_l_25 h_6 h_7 h_8 h_9 h_10 h_11 h_12 h_13 h_14 h_15 h_16 (by first | assumption | exact fr_refl _ _ _ | (rw [h_l_13]; exact fr_set (by first | assumption | exact fr_refl _ _ _) (by omega) (by omega) (by omega))) (by first | assumption | exact fr_refl _ _ _ | (rw [h_l_17]; exact fr_set (by first | assumption | exact fr_refl _ _ _) (by omega) (by omega) (by omega))) h_19 h_20 h_21 h_22 h_23 h_24 h_25 h_26 h_27 h_28 (by omega) (by omega) (by omega) (by first | assumption | exact zn_nil (by omega) | (rw [h_l_13]; first | exact zn_out h_32 (by omega) (by omega) | exact zn_in h_32 (by omega) (by omega) (by omega) | exact zn_ext h_32 (by omega) (by omega) (by omega) (by omega) (by omega) | exact zn_out (zn_sub h_32 (by omega) (by omega) (by omega) (by omega)) (by omega) (by omega)) | (exfalso; omega)) (by first | assumption | exact zn_nil (by omega) | (rw [h_l_17]; first | exact zn_out h_33 (by omega) (by omega) | exact zn_in h_33 (by omega) (by omega) (by omega) | exact zn_ext h_33 (by omega) (by omega) (by omega) (by omega) (by omega) | exact zn_out (zn_sub h_33 (by omega) (by omega) (by omega) (by omega)) (by omega) (by omega)) | (exfalso; omega)) (by omega)) (fun z_wv_shapeRows__30 z_wv_shapeColumns__31 z_wv_row__32 z_wv_column__33 z_wv_below__34 z_wv_face__35 z_wv_worn__36 z_wv_lastBend__37 ⟨q_38, q_39, q_40, q_41, q_42, q_43, q_44, q_45, q_46, q_47, q_48, q_49, q_50, q_51, q_52⟩ => ?_)
      exact ⟨(by assumption), (by assumption), (by assumption), (by assumption), (by assumption), (by assumption), (by assumption), (by assumption), (by first | assumption | exact fr_refl _ _ _), (by first | assumption | exact fr_refl _ _ _), (by first | assumption | exact fr_refl _ _ _), (by first | assumption | exact fr_refl _ _ _), (by first | assumption | exact (show lvI _ _ _ _ _ _ _ by assumption) _ (by omega) | exact lv9_fr (by assumption) (by assumption) (by assumption) (by assumption) (by assumption) (by omega) (by omega) (by omega) (by omega) (by omega) | exact ⟨by omega, by omega, by omega, by omega, (by first | assumption | exact zn_nil (by omega) | (exfalso; omega)), (by first | assumption | exact zn_nil (by omega) | (exfalso; omega))⟩), (by omega), (by omega)⟩

set_option maxHeartbeats 4000000 in
set_option maxRecDepth 20000 in
theorem sf_X9_copies_26_a {N : Nat} (hN : 700 ≤ N) {u_row : List Int32} {u_col : List Int32} {u_sR : List Int32} {u_sC : List Int32} {A : Int} {B9 : Int} {a9 : Int} {b9 : Int} {R9 : Int32} {C9 : Int32} : ∀ (n : Nat) (x1 : Int32) (x2 : Int32) (x3 : Int32) (v_shapeRows : List Int32) (v_shapeColumns : List Int32) (v_row : List Int32) (v_column : List Int32) (v_below : List Int32) (v_face : List Int32) (v_worn : List Int32) (v_lastBend : List Int32), v_shapeRows.length = 6 → v_shapeColumns.length = 6 → v_row.length = 192 → v_column.length = 192 → v_below.length = 192 → v_face.length = 192 → v_worn.length = 384 → v_lastBend.length = 384 → (mm_ig v_shapeRows x2).toInt = (mm_ig v_shapeRows x1).toInt → (mm_ig v_shapeColumns x2).toInt = (mm_ig v_shapeColumns x1).toInt → 0 ≤ x1.toInt → x1.toInt ≤ 5 → 0 ≤ x2.toInt → x2.toInt ≤ 5 → (x1.toInt < x2.toInt ∨ x2.toInt < x1.toInt) → 1 ≤ R9.toInt * C9.toInt → R9.toInt * C9.toInt ≤ 32 → fr u_row v_row A B9 → fr u_col v_column A B9 → fr u_sR v_shapeRows a9 b9 → fr u_sC v_shapeColumns a9 b9 → A ≤ 32 * x2.toInt → 32 * x2.toInt + 32 ≤ B9 → a9 ≤ x2.toInt → x2.toInt < b9 → 1 ≤ (mm_ig v_shapeRows x2).toInt → (mm_ig v_shapeRows x2).toInt ≤ 4 → 1 ≤ (mm_ig v_shapeColumns x2).toInt → (mm_ig v_shapeColumns x2).toInt ≤ 8 → 0 ≤ x3.toInt → x3.toInt ≤ R9.toInt * C9.toInt → zn v_row (32 * x2.toInt) (32 * x2.toInt + x3.toInt) 0 (mm_ig v_shapeRows x2).toInt → zn v_column (32 * x2.toInt) (32 * x2.toInt + x3.toInt) 0 (mm_ig v_shapeColumns x2).toInt → zn v_row (32 * x1.toInt) (32 * x1.toInt + R9.toInt * C9.toInt) 0 (mm_ig v_shapeRows x2).toInt → zn v_column (32 * x1.toInt) (32 * x1.toInt + R9.toInt * C9.toInt) 0 (mm_ig v_shapeColumns x2).toInt → (32 - x3.toInt).toNat < n → wp (fX9_copies_26 N n x1 x2 x3 v_shapeRows v_shapeColumns v_row v_column v_below v_face v_worn v_lastBend) (cu8 (fun (wv_shapeRows : List Int32) (wv_shapeColumns : List Int32) (wv_row : List Int32) (wv_column : List Int32) (wv_below : List Int32) (wv_face : List Int32) (wv_worn : List Int32) (wv_lastBend : List Int32) => wv_shapeRows.length = 6 ∧ wv_shapeColumns.length = 6 ∧ wv_row.length = 192 ∧ wv_column.length = 192 ∧ wv_below.length = 192 ∧ wv_face.length = 192 ∧ wv_worn.length = 384 ∧ wv_lastBend.length = 384 ∧ fr u_row wv_row A B9 ∧ fr u_col wv_column A B9 ∧ fr u_sR wv_shapeRows a9 b9 ∧ fr u_sC wv_shapeColumns a9 b9 ∧ lv9 R9 C9 wv_shapeRows wv_shapeColumns wv_row wv_column x2 ∧ (mm_ig wv_shapeRows x2).toInt = (mm_ig v_shapeRows x1).toInt ∧ (mm_ig wv_shapeColumns x2).toInt = (mm_ig v_shapeColumns x1).toInt)) := by
  intro n
  induction n with
  | zero =>
    intro x1 x2 x3 v_shapeRows v_shapeColumns v_row v_column v_below v_face v_worn v_lastBend h_0 h_1 h_2 h_3 h_4 h_5 h_6 h_7 h_8 h_9 h_10 h_11 h_12 h_13 h_14 h_15 h_16 h_17 h_18 h_19 h_20 h_21 h_22 h_23 h_24 h_25 h_26 h_27 h_28 h_29 h_30 h_31 h_32 h_33 h_34 hm
    exact absurd hm (by omega)
  | succ n ih =>
    intro x1 x2 x3 v_shapeRows v_shapeColumns v_row v_column v_below v_face v_worn v_lastBend h_0 h_1 h_2 h_3 h_4 h_5 h_6 h_7 h_8 h_9 h_10 h_11 h_12 h_13 h_14 h_15 h_16 h_17 h_18 h_19 h_20 h_21 h_22 h_23 h_24 h_25 h_26 h_27 h_28 h_29 h_30 h_31 h_32 h_33 h_34 hm
    refine Or.elim (Int.lt_or_le x3.toInt (R9.toInt * C9.toInt)) (fun hF => ?_) (fun hF => sf_X9_copies_26_b (R9 := R9) (C9 := C9) (u_row := u_row) (u_col := u_col) (u_sR := u_sR) (u_sC := u_sC) (A := A) (B9 := B9) (a9 := a9) (b9 := b9) hN (n + 1) x1 x2 x3 _ _ _ _ _ _ _ _ (by first | assumption | omega) (by first | assumption | omega) (by first | assumption | omega) (by first | assumption | omega) (by first | assumption | omega) (by first | assumption | omega) (by first | assumption | omega) (by first | assumption | omega) (by first | assumption | omega) (by first | assumption | omega) (by first | assumption | omega) (by first | assumption | omega) (by first | assumption | omega) (by first | assumption | omega) (by first | assumption | omega) (by first | assumption | omega) (by first | assumption | omega) (by first | assumption | omega) (by first | assumption | omega) (by first | assumption | omega) (by first | assumption | omega) (by first | assumption | omega) (by first | assumption | omega) (by first | assumption | omega) (by first | assumption | omega) (by first | assumption | omega) (by first | assumption | omega) (by first | assumption | omega) (by first | assumption | omega) (by first | assumption | omega) (by first | assumption | omega) (by first | assumption | omega) (zn_sub h_31 (by omega) (by omega) (by omega) (by omega)) (zn_sub h_32 (by omega) (by omega) (by omega) (by omega)) (by omega))
    refine wp_of (uf_X9_copies_26 _ _ _ _ _ _ _ _ _ _ _ _ _) ?_
    have n_2 : (32 : Int32).toInt = 32 := by decide
    refine wp_if (fun c_1 => ?_) (fun c_1 => ?_)
    ·
      have dc_1 := i_le c_1
      have n_3 : (0 : Int32).toInt = 0 := by decide
      refine wp_cu8 (sf_X9_copies_128 (u_row := u_row) (u_col := u_col) (u_sR := u_sR) (u_sC := u_sC) (A := A) (B9 := B9) (a9 := a9) (b9 := b9) (R9 := R9) (C9 := C9) hN _ _ _ _ _ _ _ _ _ _ _ _ h_0 h_1 h_2 h_3 h_4 h_5 h_6 h_7 h_8 h_9 h_10 h_11 h_12 h_13 h_14 h_15 h_16 h_17 h_18 h_19 h_20 h_21 h_22 h_23 h_24 (by first | assumption | exact (show lvI _ _ _ _ _ _ _ by assumption) _ (by omega) | exact lv9_fr (by assumption) (by assumption) (by assumption) (by assumption) (by assumption) (by omega) (by omega) (by omega) (by omega) (by omega) | exact ⟨by omega, by omega, by omega, by omega, (by first | assumption | exact zn_nil (by omega) | exact zn_sub h_31 (by omega) (by omega) (by omega) (by omega) | exact zn_sub h_33 (by omega) (by omega) (by omega) (by omega) | (exfalso; omega)), (by first | assumption | exact zn_nil (by omega) | exact zn_sub h_32 (by omega) (by omega) (by omega) (by omega) | exact zn_sub h_34 (by omega) (by omega) (by omega) (by omega) | (exfalso; omega))⟩) (by omega) (by omega) (by omega)) (fun z_wv_shapeRows z_wv_shapeColumns z_wv_row z_wv_column z_wv_below z_wv_face z_wv_worn z_wv_lastBend ⟨q_4, q_5, q_6, q_7, q_8, q_9, q_10, q_11, q_12, q_13, q_14, q_15, q_16, q_17, q_18⟩ => ?_)
      exact ⟨(by assumption), (by assumption), (by assumption), (by assumption), (by assumption), (by assumption), (by assumption), (by assumption), (by first | assumption | exact fr_refl _ _ _), (by first | assumption | exact fr_refl _ _ _), (by first | assumption | exact fr_refl _ _ _), (by first | assumption | exact fr_refl _ _ _), (by first | assumption | exact (show lvI _ _ _ _ _ _ _ by assumption) _ (by omega) | exact lv9_fr (by assumption) (by assumption) (by assumption) (by assumption) (by assumption) (by omega) (by omega) (by omega) (by omega) (by omega) | exact ⟨by omega, by omega, by omega, by omega, (by first | assumption | exact zn_nil (by omega) | (exfalso; omega)), (by first | assumption | exact zn_nil (by omega) | (exfalso; omega))⟩), (by omega), (by omega)⟩
    ·
      have dc_1 := i_nle c_1
      generalize hz_z : ((32 : Int32) * x1) = z
      have e_19 := i_mulLE (c := 32) (by decide) hz_z (by omega) (by omega)
      generalize hz_z__20 : (z + x3) = z__20
      have e_21 := i_addE hz_z__20 (by omega) (by omega)
      refine wp_ck (i_inb (by omega) (by omega)) ?_
      obtain ⟨e_22, e1_22⟩ := zn_get h_33 (i := z__20) (by omega) (by omega) (by omega) (by omega)
      refine wp_nm (fun y_11 h_y_11 => ?_)
      have t_y_11 : y_11.toInt = ((mm_ig v_row z__20)).toInt := by rw [h_y_11]
      generalize hz_z__24 : ((32 : Int32) * x2) = z__24
      have e_25 := i_mulLE (c := 32) (by decide) hz_z__24 (by omega) (by omega)
      generalize hz_z__26 : (z__24 + x3) = z__26
      have e_27 := i_addE hz_z__26 (by omega) (by omega)
      refine wp_ck (i_inb (by omega) (by omega)) ?_
      refine wp_nm (fun l_13 h_l_13 => ?_)
      have nl_l_13 : l_13.length = 192 := by rw [h_l_13, is_len]; assumption
      refine wp_ck (i_inb (by omega) (by omega)) ?_
      obtain ⟨e_28, e1_28⟩ := zn_get h_34 (i := z__20) (by omega) (by omega) (by omega) (by omega)
      refine wp_nm (fun y_15 h_y_15 => ?_)
      have t_y_15 : y_15.toInt = ((mm_ig v_column z__20)).toInt := by rw [h_y_15]
      refine wp_ck (i_inb (by omega) (by omega)) ?_
      refine wp_nm (fun l_17 h_l_17 => ?_)
      have nl_l_17 : l_17.length = 192 := by rw [h_l_17, is_len]; assumption
      refine wp_ck (i_inb (by omega) (by omega)) ?_
      refine wp_nm (fun y_19 h_y_19 => ?_)
      have t_y_19 : y_19.toInt = ((mm_ig v_below z__20)).toInt := by rw [h_y_19]
      refine wp_ck (i_inb (by omega) (by omega)) ?_
      refine wp_nm (fun l_21 h_l_21 => ?_)
      have nl_l_21 : l_21.length = 192 := by rw [h_l_21, is_len]; assumption
      refine wp_ck (i_inb (by omega) (by omega)) ?_
      refine wp_nm (fun y_23 h_y_23 => ?_)
      have t_y_23 : y_23.toInt = ((mm_ig v_face z__20)).toInt := by rw [h_y_23]
      refine wp_ck (i_inb (by omega) (by omega)) ?_
      refine wp_nm (fun l_25 h_l_25 => ?_)
      have nl_l_25 : l_25.length = 192 := by rw [h_l_25, is_len]; assumption
      have n_30 : (1 : Int32).toInt = 1 := by decide
      refine wp_nm (fun y_26 h_y_26 => ?_)
      have e_31 := i_addE h_y_26.symm (by omega) (by omega)
      refine wp_cu8 (ih _ _ _ _ _ _ _ _ _ _ _ h_0 h_1 nl_l_13 nl_l_17 nl_l_21 nl_l_25 h_6 h_7 h_8 h_9 h_10 h_11 h_12 h_13 h_14 h_15 h_16 (by first | assumption | exact fr_refl _ _ _ | (rw [h_l_13]; exact fr_set (by first | assumption | exact fr_refl _ _ _) (by omega) (by omega) (by omega))) (by first | assumption | exact fr_refl _ _ _ | (rw [h_l_17]; exact fr_set (by first | assumption | exact fr_refl _ _ _) (by omega) (by omega) (by omega))) h_19 h_20 h_21 h_22 h_23 h_24 h_25 h_26 h_27 h_28 (by omega) (by omega) (by first | assumption | exact zn_nil (by omega) | (rw [h_l_13]; first | exact zn_out h_31 (by omega) (by omega) | exact zn_in h_31 (by omega) (by omega) (by omega) | exact zn_ext h_31 (by omega) (by omega) (by omega) (by omega) (by omega) | exact zn_out (zn_sub h_31 (by omega) (by omega) (by omega) (by omega)) (by omega) (by omega) | exact zn_out h_33 (by omega) (by omega) | exact zn_in h_33 (by omega) (by omega) (by omega) | exact zn_ext h_33 (by omega) (by omega) (by omega) (by omega) (by omega) | exact zn_out (zn_sub h_33 (by omega) (by omega) (by omega) (by omega)) (by omega) (by omega)) | (exfalso; omega)) (by first | assumption | exact zn_nil (by omega) | (rw [h_l_17]; first | exact zn_out h_32 (by omega) (by omega) | exact zn_in h_32 (by omega) (by omega) (by omega) | exact zn_ext h_32 (by omega) (by omega) (by omega) (by omega) (by omega) | exact zn_out (zn_sub h_32 (by omega) (by omega) (by omega) (by omega)) (by omega) (by omega) | exact zn_out h_34 (by omega) (by omega) | exact zn_in h_34 (by omega) (by omega) (by omega) | exact zn_ext h_34 (by omega) (by omega) (by omega) (by omega) (by omega) | exact zn_out (zn_sub h_34 (by omega) (by omega) (by omega) (by omega)) (by omega) (by omega)) | (exfalso; omega)) (by first | assumption | exact zn_nil (by omega) | (rw [h_l_13]; first | exact zn_out h_31 (by omega) (by omega) | exact zn_in h_31 (by omega) (by omega) (by omega) | exact zn_ext h_31 (by omega) (by omega) (by omega) (by omega) (by omega) | exact zn_out (zn_sub h_31 (by omega) (by omega) (by omega) (by omega)) (by omega) (by omega) | exact zn_out h_33 (by omega) (by omega) | exact zn_in h_33 (by omega) (by omega) (by omega) | exact zn_ext h_33 (by omega) (by omega) (by omega) (by omega) (by omega) | exact zn_out (zn_sub h_33 (by omega) (by omega) (by omega) (by omega)) (by omega) (by omega)) | (exfalso; omega)) (by first | assumption | exact zn_nil (by omega) | (rw [h_l_17]; first | exact zn_out h_32 (by omega) (by omega) | exact zn_in h_32 (by omega) (by omega) (by omega) | exact zn_ext h_32 (by omega) (by omega) (by omega) (by omega) (by omega) | exact zn_out (zn_sub h_32 (by omega) (by omega) (by omega) (by omega)) (by omega) (by omega) | exact zn_out h_34 (by omega) (by omega) | exact zn_in h_34 (by omega) (by omega) (by omega) | exact zn_ext h_34 (by omega) (by omega) (by omega) (by omega) (by omega) | exact zn_out (zn_sub h_34 (by omega) (by omega) (by omega) (by omega)) (by omega) (by omega)) | (exfalso; omega)) (by omega)) (fun z_wv_shapeRows__32 z_wv_shapeColumns__33 z_wv_row__34 z_wv_column__35 z_wv_below__36 z_wv_face__37 z_wv_worn__38 z_wv_lastBend__39 ⟨q_40, q_41, q_42, q_43, q_44, q_45, q_46, q_47, q_48, q_49, q_50, q_51, q_52, q_53, q_54⟩ => ?_)
      exact ⟨(by assumption), (by assumption), (by assumption), (by assumption), (by assumption), (by assumption), (by assumption), (by assumption), (by first | assumption | exact fr_refl _ _ _), (by first | assumption | exact fr_refl _ _ _), (by first | assumption | exact fr_refl _ _ _), (by first | assumption | exact fr_refl _ _ _), (by first | assumption | exact (show lvI _ _ _ _ _ _ _ by assumption) _ (by omega) | exact lv9_fr (by assumption) (by assumption) (by assumption) (by assumption) (by assumption) (by omega) (by omega) (by omega) (by omega) (by omega) | exact ⟨by omega, by omega, by omega, by omega, (by first | assumption | exact zn_nil (by omega) | (exfalso; omega)), (by first | assumption | exact zn_nil (by omega) | (exfalso; omega))⟩), (by omega), (by omega)⟩

theorem uf_X9_copies (N : Nat) (x1 : Int32) (x2 : Int32) (v_shapeRows : List Int32) (v_shapeColumns : List Int32) (v_row : List Int32) (v_column : List Int32) (v_below : List Int32) (v_face : List Int32) (v_worn : List Int32) (v_lastBend : List Int32) : fX9_copies N x1 x2 v_shapeRows v_shapeColumns v_row v_column v_below v_face v_worn v_lastBend = mm_ck (mm_inb x1 v_shapeRows.length) (mm_nm ((mm_ig v_shapeRows x1)) (fun (y_2 : Int32) =>
    mm_ck (mm_inb x2 v_shapeRows.length) (mm_nm (mm_is v_shapeRows x2 y_2) (fun (l_4 : List Int32) =>
    mm_ck (mm_inb x1 v_shapeColumns.length) (mm_nm ((mm_ig v_shapeColumns x1)) (fun (y_6 : Int32) =>
    mm_ck (mm_inb x2 v_shapeColumns.length) (mm_nm (mm_is v_shapeColumns x2 y_6) (fun (l_8 : List Int32) =>
    fX9_copies_26 N N x1 x2 (0 : Int32) l_4 l_8 v_row v_column v_below v_face v_worn v_lastBend)))))))) := rfl

set_option maxHeartbeats 4000000 in
set_option maxRecDepth 20000 in
theorem sf_X9_copies {N : Nat} (hN : 700 ≤ N) {u_row : List Int32} {u_col : List Int32} {u_sR : List Int32} {u_sC : List Int32} {A : Int} {B9 : Int} {a9 : Int} {b9 : Int} {R9 : Int32} {C9 : Int32} {x1 : Int32} {x2 : Int32} {v_shapeRows : List Int32} {v_shapeColumns : List Int32} {v_row : List Int32} {v_column : List Int32} {v_below : List Int32} {v_face : List Int32} {v_worn : List Int32} {v_lastBend : List Int32} (h_0 : v_shapeRows.length = 6) (h_1 : v_shapeColumns.length = 6) (h_2 : v_row.length = 192) (h_3 : v_column.length = 192) (h_4 : v_below.length = 192) (h_5 : v_face.length = 192) (h_6 : v_worn.length = 384) (h_7 : v_lastBend.length = 384) (h_8 : 0 ≤ x1.toInt) (h_9 : x1.toInt ≤ 5) (h_10 : 0 ≤ x2.toInt) (h_11 : x2.toInt ≤ 5) (h_12 : (x1.toInt < x2.toInt ∨ x2.toInt < x1.toInt)) (h_13 : 1 ≤ R9.toInt * C9.toInt) (h_14 : R9.toInt * C9.toInt ≤ 32) (h_15 : fr u_row v_row A B9) (h_16 : fr u_col v_column A B9) (h_17 : fr u_sR v_shapeRows a9 b9) (h_18 : fr u_sC v_shapeColumns a9 b9) (h_19 : A ≤ 32 * x2.toInt) (h_20 : 32 * x2.toInt + 32 ≤ B9) (h_21 : a9 ≤ x2.toInt) (h_22 : x2.toInt < b9) (h_23 : lv9 R9 C9 v_shapeRows v_shapeColumns v_row v_column x1) : wp (fX9_copies N x1 x2 v_shapeRows v_shapeColumns v_row v_column v_below v_face v_worn v_lastBend) (cu8 (fun (wv_shapeRows : List Int32) (wv_shapeColumns : List Int32) (wv_row : List Int32) (wv_column : List Int32) (wv_below : List Int32) (wv_face : List Int32) (wv_worn : List Int32) (wv_lastBend : List Int32) => wv_shapeRows.length = 6 ∧ wv_shapeColumns.length = 6 ∧ wv_row.length = 192 ∧ wv_column.length = 192 ∧ wv_below.length = 192 ∧ wv_face.length = 192 ∧ wv_worn.length = 384 ∧ wv_lastBend.length = 384 ∧ fr u_row wv_row A B9 ∧ fr u_col wv_column A B9 ∧ fr u_sR wv_shapeRows a9 b9 ∧ fr u_sC wv_shapeColumns a9 b9 ∧ lv9 R9 C9 wv_shapeRows wv_shapeColumns wv_row wv_column x2 ∧ (mm_ig wv_shapeRows x2).toInt = (mm_ig v_shapeRows x1).toInt ∧ (mm_ig wv_shapeColumns x2).toInt = (mm_ig v_shapeColumns x1).toInt)) := by
  obtain ⟨l1, l2, l3, l4, l5, l6⟩ := id (show lv9 R9 C9 v_shapeRows v_shapeColumns v_row v_column x1 by assumption)
  refine wp_of (uf_X9_copies _ _ _ _ _ _ _ _ _ _ _) ?_
  refine wp_ck (i_inb (by omega) (by omega)) ?_
  refine wp_nm (fun y_2 h_y_2 => ?_)
  have t_y_2 : y_2.toInt = ((mm_ig v_shapeRows x1)).toInt := by rw [h_y_2]
  refine wp_ck (i_inb (by omega) (by omega)) ?_
  refine wp_nm (fun l_4 h_l_4 => ?_)
  have nl_l_4 : l_4.length = 6 := by rw [h_l_4, is_len]; assumption
  have w_l_4 : (mm_ig l_4 x2).toInt = (y_2).toInt := by rw [h_l_4, ig_is _ _ _ _ (by omega) (by omega) (by omega), if_pos rfl]
  have wx_l_4_x1 : (mm_ig l_4 x1).toInt = (mm_ig v_shapeRows x1).toInt := by rw [h_l_4, ig_is _ _ _ _ (by omega) (by omega) (by omega), if_neg (by omega)]
  refine wp_ck (i_inb (by omega) (by omega)) ?_
  refine wp_nm (fun y_6 h_y_6 => ?_)
  have t_y_6 : y_6.toInt = ((mm_ig v_shapeColumns x1)).toInt := by rw [h_y_6]
  refine wp_ck (i_inb (by omega) (by omega)) ?_
  refine wp_nm (fun l_8 h_l_8 => ?_)
  have nl_l_8 : l_8.length = 6 := by rw [h_l_8, is_len]; assumption
  have w_l_8 : (mm_ig l_8 x2).toInt = (y_6).toInt := by rw [h_l_8, ig_is _ _ _ _ (by omega) (by omega) (by omega), if_pos rfl]
  have wx_l_8_x1 : (mm_ig l_8 x1).toInt = (mm_ig v_shapeColumns x1).toInt := by rw [h_l_8, ig_is _ _ _ _ (by omega) (by omega) (by omega), if_neg (by omega)]
  have n_3 : (0 : Int32).toInt = 0 := by decide
  refine wp_cu8 (sf_X9_copies_26_a (u_row := u_row) (u_col := u_col) (u_sR := u_sR) (u_sC := u_sC) (A := A) (B9 := B9) (a9 := a9) (b9 := b9) (R9 := R9) (C9 := C9) hN _ _ _ _ _ _ _ _ _ _ _ _ nl_l_4 nl_l_8 h_2 h_3 h_4 h_5 h_6 h_7 (by omega) (by omega) h_8 h_9 h_10 h_11 h_12 h_13 h_14 h_15 h_16 (by first | assumption | exact fr_refl _ _ _ | (rw [h_l_4]; exact fr_set (by first | assumption | exact fr_refl _ _ _) (by omega) (by omega) (by omega))) (by first | assumption | exact fr_refl _ _ _ | (rw [h_l_8]; exact fr_set (by first | assumption | exact fr_refl _ _ _) (by omega) (by omega) (by omega))) h_19 h_20 h_21 h_22 (by omega) (by omega) (by omega) (by omega) (by omega) (by omega) (by first | assumption | exact zn_nil (by omega) | exact zn_sub l5 (by omega) (by omega) (by omega) (by omega) | (exfalso; omega)) (by first | assumption | exact zn_nil (by omega) | exact zn_sub l6 (by omega) (by omega) (by omega) (by omega) | (exfalso; omega)) (by first | assumption | exact zn_nil (by omega) | exact zn_sub l5 (by omega) (by omega) (by omega) (by omega) | (exfalso; omega)) (by first | assumption | exact zn_nil (by omega) | exact zn_sub l6 (by omega) (by omega) (by omega) (by omega) | (exfalso; omega)) (by omega)) (fun z_wv_shapeRows z_wv_shapeColumns z_wv_row z_wv_column z_wv_below z_wv_face z_wv_worn z_wv_lastBend ⟨q_4, q_5, q_6, q_7, q_8, q_9, q_10, q_11, q_12, q_13, q_14, q_15, q_16, q_17, q_18⟩ => ?_)
  exact ⟨(by assumption), (by assumption), (by assumption), (by assumption), (by assumption), (by assumption), (by assumption), (by assumption), (by first | assumption | exact fr_refl _ _ _), (by first | assumption | exact fr_refl _ _ _), (by first | assumption | exact fr_refl _ _ _), (by first | assumption | exact fr_refl _ _ _), (by first | assumption | exact (show lvI _ _ _ _ _ _ _ by assumption) _ (by omega) | exact lv9_fr (by assumption) (by assumption) (by assumption) (by assumption) (by assumption) (by omega) (by omega) (by omega) (by omega) (by omega) | exact ⟨by omega, by omega, by omega, by omega, (by first | assumption | exact zn_nil (by omega) | (exfalso; omega)), (by first | assumption | exact zn_nil (by omega) | (exfalso; omega))⟩), (by omega), (by omega)⟩

theorem uf_X9_halvings_4 (N : Nat) (n : Nat) (x1 : Int32) (x2 : Int32) : fX9_halvings_4 N (n + 1) x1 x2 = 
    if x2 ≤ (1 : Int32) then
    (some (x1))
    else (mm_nm (x1 + (1 : Int32)) (fun (y_2 : Int32) =>
    mm_ck (mm_nz (2 : Int32)) (mm_nm (((x2 + (1 : Int32)) / (2 : Int32))) (fun (y_4 : Int32) =>
    fX9_halvings_4 N n y_2 y_4)))) := rfl

set_option maxHeartbeats 4000000 in
set_option maxRecDepth 20000 in
theorem sf_X9_halvings_4 {N : Nat} (hN : 700 ≤ N) {x0 : Int32} : ∀ (n : Nat) (x1 : Int32) (x2 : Int32), x2.toInt ≤ 8 → 0 ≤ x1.toInt → x1.toInt ≤ 8 → (2 ≤ x2.toInt → x1.toInt + x2.toInt ≤ 9) → (2 ≤ x0.toInt → (1 ≤ x1.toInt ∨ 2 ≤ x2.toInt)) → (x2.toInt).toNat < n → wp (fX9_halvings_4 N n x1 x2) (fun (r : Int32) => 0 ≤ r.toInt ∧ r.toInt ≤ 8 ∧ ((2 ≤ x0.toInt → 1 ≤ r.toInt))) := by
  intro n
  induction n with
  | zero =>
    intro x1 x2 h_0 h_1 h_2 h_3 h_4 hm
    exact absurd hm (by omega)
  | succ n ih =>
    intro x1 x2 h_0 h_1 h_2 h_3 h_4 hm
    refine wp_of (uf_X9_halvings_4 _ _ _ _) ?_
    have n_2 : (1 : Int32).toInt = 1 := by decide
    refine wp_if (fun c_1 => ?_) (fun c_1 => ?_)
    ·
      have dc_1 := i_le c_1
      exact wp_so1 ⟨h_1, h_2, (by omega)⟩
    ·
      have dc_1 := i_nle c_1
      refine wp_nm (fun y_2 h_y_2 => ?_)
      have e_3 := i_addE h_y_2.symm (by omega) (by omega)
      have n_4 : (2 : Int32).toInt = 2 := by decide
      refine wp_ck (i_nz (by omega)) ?_
      generalize hz_z : (x2 + (1 : Int32)) = z
      first | have e_5 := i_addE hz_z (by omega) (by omega) | obtain ⟨k_5, e_5, e1_5, e2_5⟩ := i_addY hz_z
      refine wp_nm (fun y_4 h_y_4 => ?_)
      have e_6 := i_divL (c := 2) (by decide) (by decide) h_y_4.symm
      exact ih _ _ (by omega) (by omega) (by omega) (by omega) (by omega) (by omega)

theorem uf_X9_halvings (N : Nat) (x0 : Int32) : fX9_halvings N x0 = fX9_halvings_4 N N (0 : Int32) x0 := rfl

set_option maxHeartbeats 4000000 in
set_option maxRecDepth 20000 in
theorem sf_X9_halvings {N : Nat} (hN : 700 ≤ N) {x0 : Int32} (h_0 : x0.toInt ≤ 8) : wp (fX9_halvings N x0) (fun (r : Int32) => 0 ≤ r.toInt ∧ r.toInt ≤ 8 ∧ ((2 ≤ x0.toInt → 1 ≤ r.toInt))) := by
  refine wp_of (uf_X9_halvings _ _) ?_
  have n_1 : (0 : Int32).toInt = 0 := by decide
  exact sf_X9_halvings_4 hN _ _ _ h_0 (by omega) (by omega) (by omega) (by omega) (by omega)
