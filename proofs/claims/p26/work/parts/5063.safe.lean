section
/-! safe -/
theorem uf_X9_copies_128 (N : Nat) (n : Nat) (x1 : Int32) (x2 : Int32) (x3 : Int32) (v_shapeRows : List Int32) (v_shapeColumns : List Int32) (v_row : List Int32) (v_column : List Int32) (v_below : List Int32) (v_face : List Int32) (v_worn : List Int32) (v_lastBend : List Int32) : fX9_copies_128 N (n + 1) x1 x2 x3 v_shapeRows v_shapeColumns v_row v_column v_below v_face v_worn v_lastBend = 
    if (64 : Int32) ≤ x3 then
    (some (v_shapeRows, v_shapeColumns, v_row, v_column, v_below, v_face, v_worn, v_lastBend))
    else (mm_ck (mm_inb (((64 : Int32) * x1) + x3) v_worn.length) (mm_nm ((mm_ig v_worn (((64 : Int32) * x1) + x3))) (fun (y_29 : Int32) =>
    mm_ck (mm_inb (((64 : Int32) * x2) + x3) v_worn.length) (mm_nm (mm_is v_worn (((64 : Int32) * x2) + x3) y_29) (fun (l_31 : List Int32) =>
    mm_ck (mm_inb (((64 : Int32) * x1) + x3) v_lastBend.length) (mm_nm ((mm_ig v_lastBend (((64 : Int32) * x1) + x3))) (fun (y_33 : Int32) =>
    mm_ck (mm_inb (((64 : Int32) * x2) + x3) v_lastBend.length) (mm_nm (mm_is v_lastBend (((64 : Int32) * x2) + x3) y_33) (fun (l_35 : List Int32) =>
    mm_nm (x3 + (1 : Int32)) (fun (y_36 : Int32) =>
    fX9_copies_128 N n x1 x2 y_36 v_shapeRows v_shapeColumns v_row v_column v_below v_face l_31 l_35)))))))))) := rfl

set_option maxHeartbeats 4000000 in
set_option maxRecDepth 20000 in
theorem sf_X9_copies_128 {N : Nat} (hN : 700 ≤ N) {u_row : List Int32} {u_col : List Int32} {u_sR : List Int32} {u_sC : List Int32} {A : Int} {B9 : Int} {a9 : Int} {b9 : Int} {R9 : Int32} {C9 : Int32} : ∀ (n : Nat) (x1 : Int32) (x2 : Int32) (x3 : Int32) (v_shapeRows : List Int32) (v_shapeColumns : List Int32) (v_row : List Int32) (v_column : List Int32) (v_below : List Int32) (v_face : List Int32) (v_worn : List Int32) (v_lastBend : List Int32), v_shapeRows.length = 6 → v_shapeColumns.length = 6 → v_row.length = 192 → v_column.length = 192 → v_below.length = 192 → v_face.length = 192 → v_worn.length = 384 → v_lastBend.length = 384 → (mm_ig v_shapeRows x2).toInt = (mm_ig v_shapeRows x1).toInt → (mm_ig v_shapeColumns x2).toInt = (mm_ig v_shapeColumns x1).toInt → 0 ≤ x1.toInt → x1.toInt ≤ 5 → 0 ≤ x2.toInt → x2.toInt ≤ 5 → (x1.toInt < x2.toInt ∨ x2.toInt < x1.toInt) → 1 ≤ R9.toInt * C9.toInt → R9.toInt * C9.toInt ≤ 32 → fr u_row v_row A B9 → fr u_col v_column A B9 → fr u_sR v_shapeRows a9 b9 → fr u_sC v_shapeColumns a9 b9 → A ≤ 32 * x2.toInt → 32 * x2.toInt + 32 ≤ B9 → a9 ≤ x2.toInt → x2.toInt < b9 → lv9 R9 C9 v_shapeRows v_shapeColumns v_row v_column x2 → 0 ≤ x3.toInt → x3.toInt ≤ 64 → (64 - x3.toInt).toNat < n → wp (fX9_copies_128 N n x1 x2 x3 v_shapeRows v_shapeColumns v_row v_column v_below v_face v_worn v_lastBend) (cu8 (fun (wv_shapeRows : List Int32) (wv_shapeColumns : List Int32) (wv_row : List Int32) (wv_column : List Int32) (wv_below : List Int32) (wv_face : List Int32) (wv_worn : List Int32) (wv_lastBend : List Int32) => wv_shapeRows.length = 6 ∧ wv_shapeColumns.length = 6 ∧ wv_row.length = 192 ∧ wv_column.length = 192 ∧ wv_below.length = 192 ∧ wv_face.length = 192 ∧ wv_worn.length = 384 ∧ wv_lastBend.length = 384 ∧ fr u_row wv_row A B9 ∧ fr u_col wv_column A B9 ∧ fr u_sR wv_shapeRows a9 b9 ∧ fr u_sC wv_shapeColumns a9 b9 ∧ lv9 R9 C9 wv_shapeRows wv_shapeColumns wv_row wv_column x2 ∧ (mm_ig wv_shapeRows x2).toInt = (mm_ig v_shapeRows x1).toInt ∧ (mm_ig wv_shapeColumns x2).toInt = (mm_ig v_shapeColumns x1).toInt)) := by
  intro n
  induction n with
  | zero =>
    intro x1 x2 x3 v_shapeRows v_shapeColumns v_row v_column v_below v_face v_worn v_lastBend h_0 h_1 h_2 h_3 h_4 h_5 h_6 h_7 h_8 h_9 h_10 h_11 h_12 h_13 h_14 h_15 h_16 h_17 h_18 h_19 h_20 h_21 h_22 h_23 h_24 h_25 h_26 h_27 hm
    exact absurd hm (by omega)
  | succ n ih =>
    intro x1 x2 x3 v_shapeRows v_shapeColumns v_row v_column v_below v_face v_worn v_lastBend h_0 h_1 h_2 h_3 h_4 h_5 h_6 h_7 h_8 h_9 h_10 h_11 h_12 h_13 h_14 h_15 h_16 h_17 h_18 h_19 h_20 h_21 h_22 h_23 h_24 h_25 h_26 h_27 hm
    refine wp_of (uf_X9_copies_128 _ _ _ _ _ _ _ _ _ _ _ _ _) ?_
    have n_2 : (64 : Int32).toInt = 64 := by decide
    refine wp_if (fun c_1 => ?_) (fun c_1 => ?_)
    ·
      have dc_1 := i_le c_1
      exact wp_so8 ⟨h_0, h_1, h_2, h_3, h_4, h_5, h_6, h_7, h_17, h_18, h_19, h_20, h_25, h_8, h_9⟩
    ·
      have dc_1 := i_nle c_1
      generalize hz_z : ((64 : Int32) * x1) = z
      have e_3 := i_mulLE (c := 64) (by decide) hz_z (by omega) (by omega)
      generalize hz_z__4 : (z + x3) = z__4
      have e_5 := i_addE hz_z__4 (by omega) (by omega)
      refine wp_ck (i_inb (by omega) (by omega)) ?_
      refine wp_nm (fun y_29 h_y_29 => ?_)
      have t_y_29 : y_29.toInt = ((mm_ig v_worn z__4)).toInt := by rw [h_y_29]
      generalize hz_z__6 : ((64 : Int32) * x2) = z__6
      have e_7 := i_mulLE (c := 64) (by decide) hz_z__6 (by omega) (by omega)
      generalize hz_z__8 : (z__6 + x3) = z__8
      have e_9 := i_addE hz_z__8 (by omega) (by omega)
      refine wp_ck (i_inb (by omega) (by omega)) ?_
      refine wp_nm (fun l_31 h_l_31 => ?_)
      have nl_l_31 : l_31.length = 384 := by rw [h_l_31, is_len]; assumption
      refine wp_ck (i_inb (by omega) (by omega)) ?_
      refine wp_nm (fun y_33 h_y_33 => ?_)
      have t_y_33 : y_33.toInt = ((mm_ig v_lastBend z__4)).toInt := by rw [h_y_33]
      refine wp_ck (i_inb (by omega) (by omega)) ?_
      refine wp_nm (fun l_35 h_l_35 => ?_)
      have nl_l_35 : l_35.length = 384 := by rw [h_l_35, is_len]; assumption
      have n_10 : (1 : Int32).toInt = 1 := by decide
      refine wp_nm (fun y_36 h_y_36 => ?_)
      have e_11 := i_addE h_y_36.symm (by omega) (by omega)
      refine wp_cu8 (ih _ _ _ _ _ _ _ _ _ _ _ h_0 h_1 h_2 h_3 h_4 h_5 nl_l_31 nl_l_35 h_8 h_9 h_10 h_11 h_12 h_13 h_14 h_15 h_16 h_17 h_18 h_19 h_20 h_21 h_22 h_23 h_24 h_25 (by omega) (by omega) (by omega)) (fun z_wv_shapeRows z_wv_shapeColumns z_wv_row z_wv_column z_wv_below z_wv_face z_wv_worn z_wv_lastBend ⟨q_12, q_13, q_14, q_15, q_16, q_17, q_18, q_19, q_20, q_21, q_22, q_23, q_24, q_25, q_26⟩ => ?_)
      exact ⟨(by assumption), (by assumption), (by assumption), (by assumption), (by assumption), (by assumption), (by assumption), (by assumption), (by first | assumption | exact fr_refl _ _ _), (by first | assumption | exact fr_refl _ _ _), (by first | assumption | exact fr_refl _ _ _), (by first | assumption | exact fr_refl _ _ _), (by first | assumption | exact (show lvI _ _ _ _ _ _ _ by assumption) _ (by omega) | exact lv9_fr (by assumption) (by assumption) (by assumption) (by assumption) (by assumption) (by omega) (by omega) (by omega) (by omega) (by omega) | exact ⟨by omega, by omega, by omega, by omega, (by first | assumption | exact zn_nil (by omega) | (exfalso; omega)), (by first | assumption | exact zn_nil (by omega) | (exfalso; omega))⟩), (by omega), (by omega)⟩

theorem uf_X9_copies_26 (N : Nat) (n : Nat) (x1 : Int32) (x2 : Int32) (x3 : Int32) (v_shapeRows : List Int32) (v_shapeColumns : List Int32) (v_row : List Int32) (v_column : List Int32) (v_below : List Int32) (v_face : List Int32) (v_worn : List Int32) (v_lastBend : List Int32) : fX9_copies_26 N (n + 1) x1 x2 x3 v_shapeRows v_shapeColumns v_row v_column v_below v_face v_worn v_lastBend = 
    if (32 : Int32) ≤ x3 then
    (fX9_copies_128 N N x1 x2 (0 : Int32) v_shapeRows v_shapeColumns v_row v_column v_below v_face v_worn v_lastBend)
    else (mm_ck (mm_inb (((32 : Int32) * x1) + x3) v_row.length) (mm_nm ((mm_ig v_row (((32 : Int32) * x1) + x3))) (fun (y_11 : Int32) =>
    mm_ck (mm_inb (((32 : Int32) * x2) + x3) v_row.length) (mm_nm (mm_is v_row (((32 : Int32) * x2) + x3) y_11) (fun (l_13 : List Int32) =>
    mm_ck (mm_inb (((32 : Int32) * x1) + x3) v_column.length) (mm_nm ((mm_ig v_column (((32 : Int32) * x1) + x3))) (fun (y_15 : Int32) =>
    mm_ck (mm_inb (((32 : Int32) * x2) + x3) v_column.length) (mm_nm (mm_is v_column (((32 : Int32) * x2) + x3) y_15) (fun (l_17 : List Int32) =>
    mm_ck (mm_inb (((32 : Int32) * x1) + x3) v_below.length) (mm_nm ((mm_ig v_below (((32 : Int32) * x1) + x3))) (fun (y_19 : Int32) =>
    mm_ck (mm_inb (((32 : Int32) * x2) + x3) v_below.length) (mm_nm (mm_is v_below (((32 : Int32) * x2) + x3) y_19) (fun (l_21 : List Int32) =>
    mm_ck (mm_inb (((32 : Int32) * x1) + x3) v_face.length) (mm_nm ((mm_ig v_face (((32 : Int32) * x1) + x3))) (fun (y_23 : Int32) =>
    mm_ck (mm_inb (((32 : Int32) * x2) + x3) v_face.length) (mm_nm (mm_is v_face (((32 : Int32) * x2) + x3) y_23) (fun (l_25 : List Int32) =>
    mm_nm (x3 + (1 : Int32)) (fun (y_26 : Int32) =>
    fX9_copies_26 N n x1 x2 y_26 v_shapeRows v_shapeColumns l_13 l_17 l_21 l_25 v_worn v_lastBend)))))))))))))))))) := rfl

set_option maxHeartbeats 4000000 in
set_option maxRecDepth 20000 in
theorem sf_X9_copies_26_b {N : Nat} (hN : 700 ≤ N) {u_row : List Int32} {u_col : List Int32} {u_sR : List Int32} {u_sC : List Int32} {A : Int} {B9 : Int} {a9 : Int} {b9 : Int} {R9 : Int32} {C9 : Int32} : ∀ (n : Nat) (x1 : Int32) (x2 : Int32) (x3 : Int32) (v_shapeRows : List Int32) (v_shapeColumns : List Int32) (v_row : List Int32) (v_column : List Int32) (v_below : List Int32) (v_face : List Int32) (v_worn : List Int32) (v_lastBend : List Int32), v_shapeRows.length = 6 → v_shapeColumns.length = 6 → v_row.length = 192 → v_column.length = 192 → v_below.length = 192 → v_face.length = 192 → v_worn.length = 384 → v_lastBend.length = 384 → (mm_ig v_shapeRows x2).toInt = (mm_ig v_shapeRows x1).toInt → (mm_ig v_shapeColumns x2).toInt = (mm_ig v_shapeColumns x1).toInt → 0 ≤ x1.toInt → x1.toInt ≤ 5 → 0 ≤ x2.toInt → x2.toInt ≤ 5 → (x1.toInt < x2.toInt ∨ x2.toInt < x1.toInt) → 1 ≤ R9.toInt * C9.toInt → R9.toInt * C9.toInt ≤ 32 → fr u_row v_row A B9 → fr u_col v_column A B9 → fr u_sR v_shapeRows a9 b9 → fr u_sC v_shapeColumns a9 b9 → A ≤ 32 * x2.toInt → 32 * x2.toInt + 32 ≤ B9 → a9 ≤ x2.toInt → x2.toInt < b9 → 1 ≤ (mm_ig v_shapeRows x2).toInt → (mm_ig v_shapeRows x2).toInt ≤ 4 → 1 ≤ (mm_ig v_shapeColumns x2).toInt → (mm_ig v_shapeColumns x2).toInt ≤ 8 → 0 ≤ x3.toInt → x3.toInt ≤ 32 → R9.toInt * C9.toInt ≤ x3.toInt → zn v_row (32 * x2.toInt) (32 * x2.toInt + R9.toInt * C9.toInt) 0 (mm_ig v_shapeRows x2).toInt → zn v_column (32 * x2.toInt) (32 * x2.toInt + R9.toInt * C9.toInt) 0 (mm_ig v_shapeColumns x2).toInt → (32 - x3.toInt).toNat < n → wp (fX9_copies_26 N n x1 x2 x3 v_shapeRows v_shapeColumns v_row v_column v_below v_face v_worn v_lastBend) (cu8 (fun (wv_shapeRows : List Int32) (wv_shapeColumns : List Int32) (wv_row : List Int32) (wv_column : List Int32) (wv_below : List Int32) (wv_face : List Int32) (wv_worn : List Int32) (wv_lastBend : List Int32) => wv_shapeRows.length = 6 ∧ wv_shapeColumns.length = 6 ∧ wv_row.length = 192 ∧ wv_column.length = 192 ∧ wv_below.length = 192 ∧ wv_face.length = 192 ∧ wv_worn.length = 384 ∧ wv_lastBend.length = 384 ∧ fr u_row wv_row A B9 ∧ fr u_col wv_column A B9 ∧ fr u_sR wv_shapeRows a9 b9 ∧ fr u_sC wv_shapeColumns a9 b9 ∧ lv9 R9 C9 wv_shapeRows wv_shapeColumns wv_row wv_column x2 ∧ (mm_ig wv_shapeRows x2).toInt = (mm_ig v_shapeRows x1).toInt ∧ (mm_ig wv_shapeColumns x2).toInt = (mm_ig v_shapeColumns x1).toInt)) := by
  intro n
  induction n with
  | zero =>
    intro x1 x2 x3 v_shapeRows v_shapeColumns v_row v_column v_below v_face v_worn v_lastBend h_0 h_1 h_2 h_3 h_4 h_5 h_6 h_7 h_8 h_9 h_10 h_11 h_12 h_13 h_14 h_15 h_16 h_17 h_18 h_19 h_20 h_21 h_22 h_23 h_24 h_25 h_26 h_27 h_28 h_29 h_30 h_31 h_32 h_33 hm
    exact absurd hm (by omega)
  | succ n ih =>
    intro x1 x2 x3 v_shapeRows v_shapeColumns v_row v_column v_below v_face v_worn v_lastBend h_0 h_1 h_2 h_3 h_4 h_5 h_6 h_7 h_8 h_9 h_10 h_11 h_12 h_13 h_14 h_15 h_16 h_17 h_18 h_19 h_20 h_21 h_22 h_23 h_24 h_25 h_26 h_27 h_28 h_29 h_30 h_31 h_32 h_33 hm
    refine wp_of (uf_X9_copies_26 _ _ _ _ _ _ _ _ _ _ _ _ _) ?_
    have n_2 : (32 : Int32).toInt = 32 := by decide
    refine wp_if (fun c_1 => ?_) (fun c_1 => ?_)
    ·
      have dc_1 := i_le c_1
      have n_3 : (0 : Int32).toInt = 0 := by decide
      refine wp_cu8 (sf_X9_copies_128 (u_row := u_row) (u_col := u_col) (u_sR := u_sR) (u_sC := u_sC) (A := A) (B9 := B9) (a9 := a9) (b9 := b9) (R9 := R9) (C9 := C9) hN _ _ _ _ _ _ _ _ _ _ _ _ h_0 h_1 h_2 h_3 h_4 h_5 h_6 h_7 h_8 h_9 h_10 h_11 h_12 h_13 h_14 h_15 h_16 h_17 h_18 h_19 h_20 h_21 h_22 h_23 h_24 (by first | assumption | exact (show lvI _ _ _ _ _ _ _ by assumption) _ (by omega) | exact lv9_fr (by assumption) (by assumption) (by assumption) (by assumption) (by assumption) (by omega) (by omega) (by omega) (by omega) (by omega) | exact ⟨by omega, by omega, by omega, by omega, (by first | assumption | exact zn_nil (by omega) | exact zn_sub h_32 (by omega) (by omega) (by omega) (by omega) | (exfalso; omega)), (by first | assumption | exact zn_nil (by omega) | exact zn_sub h_33 (by omega) (by omega) (by omega) (by omega) | (exfalso; omega))⟩) (by omega) (by omega) (by omega)) (fun z_wv_shapeRows z_wv_shapeColumns z_wv_row z_wv_column z_wv_below z_wv_face z_wv_worn z_wv_lastBend ⟨q_4, q_5, q_6, q_7, q_8, q_9, q_10, q_11, q_12, q_13, q_14, q_15, q_16, q_17, q_18⟩ => ?_)
      exact ⟨(by assumption), (by assumption), (by assumption), (by assumption), (by assumption), (by assumption), (by assumption), (by assumption), (by first | assumption | exact fr_refl _ _ _), (by first | assumption | exact fr_refl _ _ _), (by first | assumption | exact fr_refl _ _ _), (by first | assumption | exact fr_refl _ _ _), (by first | assumption | exact (show lvI _ _ _ _ _ _ _ by assumption) _ (by omega) | exact lv9_fr (by assumption) (by assumption) (by assumption) (by assumption) (by assumption) (by omega) (by omega) (by omega) (by omega) (by omega) | exact ⟨by omega, by omega, by omega, by omega, (by first | assumption | exact zn_nil (by omega) | (exfalso; omega)), (by first | assumption | exact zn_nil (by omega) | (exfalso; omega))⟩), (by omega), (by omega)⟩
    ·
      have dc_1 := i_nle c_1
      generalize hz_z : ((32 : Int32) * x1) = z
      have e_19 := i_mulLE (c := 32) (by decide) hz_z (by omega) (by omega)
      generalize hz_z__20 : (z + x3) = z__20
      have e_21 := i_addE hz_z__20 (by omega) (by omega)
      refine wp_ck (i_inb (by omega) (by omega)) ?_
      refine wp_nm (fun y_11 h_y_11 => ?_)
      have t_y_11 : y_11.toInt = ((mm_ig v_row z__20)).toInt := by rw [h_y_11]
      generalize hz_z__23 : ((32 : Int32) * x2) = z__23
      have e_24 := i_mulLE (c := 32) (by decide) hz_z__23 (by omega) (by omega)
      generalize hz_z__25 : (z__23 + x3) = z__25
      have e_26 := i_addE hz_z__25 (by omega) (by omega)
      refine wp_ck (i_inb (by omega) (by omega)) ?_
      refine wp_nm (fun l_13 h_l_13 => ?_)
      have nl_l_13 : l_13.length = 192 := by rw [h_l_13, is_len]; assumption
      refine wp_ck (i_inb (by omega) (by omega)) ?_
      refine wp_nm (fun y_15 h_y_15 => ?_)
      have t_y_15 : y_15.toInt = ((mm_ig v_column z__20)).toInt := by rw [h_y_15]
      refine wp_ck (i_inb (by omega) (by omega)) ?_
      refine wp_nm (fun l_17 h_l_17 => ?_)
      have nl_l_17 : l_17.length = 192 := by rw [h_l_17, is_len]; assumption
      refine wp_ck (i_inb (by omega) (by omega)) ?_
      refine wp_nm (fun y_19 h_y_19 => ?_)
      have t_y_19 : y_19.toInt = ((mm_ig v_below z__20)).toInt := by rw [h_y_19]
      refine wp_ck (i_inb (by omega) (by omega)) ?_
      refine wp_nm (fun l_21 h_l_21 => ?_)
      have nl_l_21 : l_21.length = 192 := by rw [h_l_21, is_len]; assumption
      refine wp_ck (i_inb (by omega) (by omega)) ?_
      refine wp_nm (fun y_23 h_y_23 => ?_)
      have t_y_23 : y_23.toInt = ((mm_ig v_face z__20)).toInt := by rw [h_y_23]
      refine wp_ck (i_inb (by omega) (by omega)) ?_
      refine wp_nm (fun l_25 h_l_25 => ?_)
      have nl_l_25 : l_25.length = 192 := by rw [h_l_25, is_len]; assumption
      have n_28 : (1 : Int32).toInt = 1 := by decide
      refine wp_nm (fun y_26 h_y_26 => ?_)
      have e_29 := i_addE h_y_26.symm (by omega) (by omega)
      refine wp_cu8 (ih _ _ _ _ _ _ _ _ _ _ _ h_0 h_1 nl_l_13 nl_l_17 nl_l_21 nl_l_25 h_6 h_7 h_8 h_9 h_10 h_11 h_12 h_13 h_14 h_15 h_16 (by first | assumption | exact fr_refl _ _ _ | (rw [h_l_13]; exact fr_set (by first | assumption | exact fr_refl _ _ _) (by omega) (by omega) (by omega))) (by first | assumption | exact fr_refl _ _ _ | (rw [h_l_17]; exact fr_set (by first | assumption | exact fr_refl _ _ _) (by omega) (by omega) (by omega))) h_19 h_20 h_21 h_22 h_23 h_24 h_25 h_26 h_27 h_28 (by omega) (by omega) (by omega) (by first | assumption | exact zn_nil (by omega) | (rw [h_l_13]; first | exact zn_out h_32 (by omega) (by omega) | exact zn_in h_32 (by omega) (by omega) (by omega) | exact zn_ext h_32 (by omega) (by omega) (by omega) (by omega) (by omega) | exact zn_out (zn_sub h_32 (by omega) (by omega) (by omega) (by omega)) (by omega) (by omega)) | (exfalso; omega)) (by first | assumption | exact zn_nil (by omega) | (rw [h_l_17]; first | exact zn_out h_33 (by omega) (by omega) | exact zn_in h_33 (by omega) (by omega) (by omega) | exact zn_ext h_33 (by omega) (by omega) (by omega) (by omega) (by omega) | exact zn_out (zn_sub h_33 (by omega) (by omega) (by omega) (by omega)) (by omega) (by omega)) | (exfalso; omega)) (by omega)) (fun z_wv_shapeRows__30 z_wv_shapeColumns__31 z_wv_row__32 z_wv_column__33 z_wv_below__34 z_wv_face__35 z_wv_worn__36 z_wv_lastBend__37 ⟨q_38, q_39, q_40, q_41, q_42, q_43, q_44, q_45, q_46, q_47, q_48, q_49, q_50, q_51, q_52⟩ => ?_)
      exact ⟨(by assumption), (by assumption), (by assumption), (by assumption), (by assumption), (by assumption), (by assumption), (by assumption), (by first | assumption | exact fr_refl _ _ _), (by first | assumption | exact fr_refl _ _ _), (by first | assumption | exact fr_refl _ _ _), (by first | assumption | exact fr_refl _ _ _), (by first | assumption | exact (show lvI _ _ _ _ _ _ _ by assumption) _ (by omega) | exact lv9_fr (by assumption) (by assumption) (by assumption) (by assumption) (by assumption) (by omega) (by omega) (by omega) (by omega) (by omega) | exact ⟨by omega, by omega, by omega, by omega, (by first | assumption | exact zn_nil (by omega) | (exfalso; omega)), (by first | assumption | exact zn_nil (by omega) | (exfalso; omega))⟩), (by omega), (by omega)⟩

set_option maxHeartbeats 4000000 in
set_option maxRecDepth 20000 in
theorem sf_X9_copies_26_a {N : Nat} (hN : 700 ≤ N) {u_row : List Int32} {u_col : List Int32} {u_sR : List Int32} {u_sC : List Int32} {A : Int} {B9 : Int} {a9 : Int} {b9 : Int} {R9 : Int32} {C9 : Int32} : ∀ (n : Nat) (x1 : Int32) (x2 : Int32) (x3 : Int32) (v_shapeRows : List Int32) (v_shapeColumns : List Int32) (v_row : List Int32) (v_column : List Int32) (v_below : List Int32) (v_face : List Int32) (v_worn : List Int32) (v_lastBend : List Int32), v_shapeRows.length = 6 → v_shapeColumns.length = 6 → v_row.length = 192 → v_column.length = 192 → v_below.length = 192 → v_face.length = 192 → v_worn.length = 384 → v_lastBend.length = 384 → (mm_ig v_shapeRows x2).toInt = (mm_ig v_shapeRows x1).toInt → (mm_ig v_shapeColumns x2).toInt = (mm_ig v_shapeColumns x1).toInt → 0 ≤ x1.toInt → x1.toInt ≤ 5 → 0 ≤ x2.toInt → x2.toInt ≤ 5 → (x1.toInt < x2.toInt ∨ x2.toInt < x1.toInt) → 1 ≤ R9.toInt * C9.toInt → R9.toInt * C9.toInt ≤ 32 → fr u_row v_row A B9 → fr u_col v_column A B9 → fr u_sR v_shapeRows a9 b9 → fr u_sC v_shapeColumns a9 b9 → A ≤ 32 * x2.toInt → 32 * x2.toInt + 32 ≤ B9 → a9 ≤ x2.toInt → x2.toInt < b9 → 1 ≤ (mm_ig v_shapeRows x2).toInt → (mm_ig v_shapeRows x2).toInt ≤ 4 → 1 ≤ (mm_ig v_shapeColumns x2).toInt → (mm_ig v_shapeColumns x2).toInt ≤ 8 → 0 ≤ x3.toInt → x3.toInt ≤ R9.toInt * C9.toInt → zn v_row (32 * x2.toInt) (32 * x2.toInt + x3.toInt) 0 (mm_ig v_shapeRows x2).toInt → zn v_column (32 * x2.toInt) (32 * x2.toInt + x3.toInt) 0 (mm_ig v_shapeColumns x2).toInt → zn v_row (32 * x1.toInt) (32 * x1.toInt + R9.toInt * C9.toInt) 0 (mm_ig v_shapeRows x2).toInt → zn v_column (32 * x1.toInt) (32 * x1.toInt + R9.toInt * C9.toInt) 0 (mm_ig v_shapeColumns x2).toInt → (32 - x3.toInt).toNat < n → wp (fX9_copies_26 N n x1 x2 x3 v_shapeRows v_shapeColumns v_row v_column v_below v_face v_worn v_lastBend) (cu8 (fun (wv_shapeRows : List Int32) (wv_shapeColumns : List Int32) (wv_row : List Int32) (wv_column : List Int32) (wv_below : List Int32) (wv_face : List Int32) (wv_worn : List Int32) (wv_lastBend : List Int32) => wv_shapeRows.length = 6 ∧ wv_shapeColumns.length = 6 ∧ wv_row.length = 192 ∧ wv_column.length = 192 ∧ wv_below.length = 192 ∧ wv_face.length = 192 ∧ wv_worn.length = 384 ∧ wv_lastBend.length = 384 ∧ fr u_row wv_row A B9 ∧ fr u_col wv_column A B9 ∧ fr u_sR wv_shapeRows a9 b9 ∧ fr u_sC wv_shapeColumns a9 b9 ∧ lv9 R9 C9 wv_shapeRows wv_shapeColumns wv_row wv_column x2 ∧ (mm_ig wv_shapeRows x2).toInt = (mm_ig v_shapeRows x1).toInt ∧ (mm_ig wv_shapeColumns x2).toInt = (mm_ig v_shapeColumns x1).toInt)) := by
  intro n
  induction n with
  | zero =>
    intro x1 x2 x3 v_shapeRows v_shapeColumns v_row v_column v_below v_face v_worn v_lastBend h_0 h_1 h_2 h_3 h_4 h_5 h_6 h_7 h_8 h_9 h_10 h_11 h_12 h_13 h_14 h_15 h_16 h_17 h_18 h_19 h_20 h_21 h_22 h_23 h_24 h_25 h_26 h_27 h_28 h_29 h_30 h_31 h_32 h_33 h_34 hm
    exact absurd hm (by omega)
  | succ n ih =>
    intro x1 x2 x3 v_shapeRows v_shapeColumns v_row v_column v_below v_face v_worn v_lastBend h_0 h_1 h_2 h_3 h_4 h_5 h_6 h_7 h_8 h_9 h_10 h_11 h_12 h_13 h_14 h_15 h_16 h_17 h_18 h_19 h_20 h_21 h_22 h_23 h_24 h_25 h_26 h_27 h_28 h_29 h_30 h_31 h_32 h_33 h_34 hm
    refine Or.elim (Int.lt_or_le x3.toInt (R9.toInt * C9.toInt)) (fun hF => ?_) (fun hF => sf_X9_copies_26_b (R9 := R9) (C9 := C9) (u_row := u_row) (u_col := u_col) (u_sR := u_sR) (u_sC := u_sC) (A := A) (B9 := B9) (a9 := a9) (b9 := b9) hN (n + 1) x1 x2 x3 _ _ _ _ _ _ _ _ (by first | assumption | omega) (by first | assumption | omega) (by first | assumption | omega) (by first | assumption | omega) (by first | assumption | omega) (by first | assumption | omega) (by first | assumption | omega) (by first | assumption | omega) (by first | assumption | omega) (by first | assumption | omega) (by first | assumption | omega) (by first | assumption | omega) (by first | assumption | omega) (by first | assumption | omega) (by first | assumption | omega) (by first | assumption | omega) (by first | assumption | omega) (by first | assumption | omega) (by first | assumption | omega) (by first | assumption | omega) (by first | assumption | omega) (by first | assumption | omega) (by first | assumption | omega) (by first | assumption | omega) (by first | assumption | omega) (by first | assumption | omega) (by first | assumption | omega) (by first | assumption | omega) (by first | assumption | omega) (by first | assumption | omega) (by first | assumption | omega) (by first | assumption | omega) (zn_sub h_31 (by omega) (by omega) (by omega) (by omega)) (zn_sub h_32 (by omega) (by omega) (by omega) (by omega)) (by omega))
    refine wp_of (uf_X9_copies_26 _ _ _ _ _ _ _ _ _ _ _ _ _) ?_
    have n_2 : (32 : Int32).toInt = 32 := by decide
    refine wp_if (fun c_1 => ?_) (fun c_1 => ?_)
    ·
      have dc_1 := i_le c_1
      have n_3 : (0 : Int32).toInt = 0 := by decide
      refine wp_cu8 (sf_X9_copies_128 (u_row := u_row) (u_col := u_col) (u_sR := u_sR) (u_sC := u_sC) (A := A) (B9 := B9) (a9 := a9) (b9 := b9) (R9 := R9) (C9 := C9) hN _ _ _ _ _ _ _ _ _ _ _ _ h_0 h_1 h_2 h_3 h_4 h_5 h_6 h_7 h_8 h_9 h_10 h_11 h_12 h_13 h_14 h_15 h_16 h_17 h_18 h_19 h_20 h_21 h_22 h_23 h_24 (by first | assumption | exact (show lvI _ _ _ _ _ _ _ by assumption) _ (by omega) | exact lv9_fr (by assumption) (by assumption) (by assumption) (by assumption) (by assumption) (by omega) (by omega) (by omega) (by omega) (by omega) | exact ⟨by omega, by omega, by omega, by omega, (by first | assumption | exact zn_nil (by omega) | exact zn_sub h_31 (by omega) (by omega) (by omega) (by omega) | exact zn_sub h_33 (by omega) (by omega) (by omega) (by omega) | (exfalso; omega)), (by first | assumption | exact zn_nil (by omega) | exact zn_sub h_32 (by omega) (by omega) (by omega) (by omega) | exact zn_sub h_34 (by omega) (by omega) (by omega) (by omega) | (exfalso; omega))⟩) (by omega) (by omega) (by omega)) (fun z_wv_shapeRows z_wv_shapeColumns z_wv_row z_wv_column z_wv_below z_wv_face z_wv_worn z_wv_lastBend ⟨q_4, q_5, q_6, q_7, q_8, q_9, q_10, q_11, q_12, q_13, q_14, q_15, q_16, q_17, q_18⟩ => ?_)
      exact ⟨(by assumption), (by assumption), (by assumption), (by assumption), (by assumption), (by assumption), (by assumption), (by assumption), (by first | assumption | exact fr_refl _ _ _), (by first | assumption | exact fr_refl _ _ _), (by first | assumption | exact fr_refl _ _ _), (by first | assumption | exact fr_refl _ _ _), (by first | assumption | exact (show lvI _ _ _ _ _ _ _ by assumption) _ (by omega) | exact lv9_fr (by assumption) (by assumption) (by assumption) (by assumption) (by assumption) (by omega) (by omega) (by omega) (by omega) (by omega) | exact ⟨by omega, by omega, by omega, by omega, (by first | assumption | exact zn_nil (by omega) | (exfalso; omega)), (by first | assumption | exact zn_nil (by omega) | (exfalso; omega))⟩), (by omega), (by omega)⟩
    ·
      have dc_1 := i_nle c_1
      generalize hz_z : ((32 : Int32) * x1) = z
      have e_19 := i_mulLE (c := 32) (by decide) hz_z (by omega) (by omega)
      generalize hz_z__20 : (z + x3) = z__20
      have e_21 := i_addE hz_z__20 (by omega) (by omega)
      refine wp_ck (i_inb (by omega) (by omega)) ?_
      obtain ⟨e_22, e1_22⟩ := zn_get h_33 (i := z__20) (by omega) (by omega) (by omega) (by omega)
      refine wp_nm (fun y_11 h_y_11 => ?_)
      have t_y_11 : y_11.toInt = ((mm_ig v_row z__20)).toInt := by rw [h_y_11]
      generalize hz_z__24 : ((32 : Int32) * x2) = z__24
      have e_25 := i_mulLE (c := 32) (by decide) hz_z__24 (by omega) (by omega)
      generalize hz_z__26 : (z__24 + x3) = z__26
      have e_27 := i_addE hz_z__26 (by omega) (by omega)
      refine wp_ck (i_inb (by omega) (by omega)) ?_
      refine wp_nm (fun l_13 h_l_13 => ?_)
      have nl_l_13 : l_13.length = 192 := by rw [h_l_13, is_len]; assumption
      refine wp_ck (i_inb (by omega) (by omega)) ?_
      obtain ⟨e_28, e1_28⟩ := zn_get h_34 (i := z__20) (by omega) (by omega) (by omega) (by omega)
      refine wp_nm (fun y_15 h_y_15 => ?_)
      have t_y_15 : y_15.toInt = ((mm_ig v_column z__20)).toInt := by rw [h_y_15]
      refine wp_ck (i_inb (by omega) (by omega)) ?_
      refine wp_nm (fun l_17 h_l_17 => ?_)
      have nl_l_17 : l_17.length = 192 := by rw [h_l_17, is_len]; assumption
      refine wp_ck (i_inb (by omega) (by omega)) ?_
      refine wp_nm (fun y_19 h_y_19 => ?_)
      have t_y_19 : y_19.toInt = ((mm_ig v_below z__20)).toInt := by rw [h_y_19]
      refine wp_ck (i_inb (by omega) (by omega)) ?_
      refine wp_nm (fun l_21 h_l_21 => ?_)
      have nl_l_21 : l_21.length = 192 := by rw [h_l_21, is_len]; assumption
      refine wp_ck (i_inb (by omega) (by omega)) ?_
      refine wp_nm (fun y_23 h_y_23 => ?_)
      have t_y_23 : y_23.toInt = ((mm_ig v_face z__20)).toInt := by rw [h_y_23]
      refine wp_ck (i_inb (by omega) (by omega)) ?_
      refine wp_nm (fun l_25 h_l_25 => ?_)
      have nl_l_25 : l_25.length = 192 := by rw [h_l_25, is_len]; assumption
      have n_30 : (1 : Int32).toInt = 1 := by decide
      refine wp_nm (fun y_26 h_y_26 => ?_)
      have e_31 := i_addE h_y_26.symm (by omega) (by omega)
      refine wp_cu8 (ih _ _ _ _ _ _ _ _ _ _ _ h_0 h_1 nl_l_13 nl_l_17 nl_l_21 nl_l_25 h_6 h_7 h_8 h_9 h_10 h_11 h_12 h_13 h_14 h_15 h_16 (by first | assumption | exact fr_refl _ _ _ | (rw [h_l_13]; exact fr_set (by first | assumption | exact fr_refl _ _ _) (by omega) (by omega) (by omega))) (by first | assumption | exact fr_refl _ _ _ | (rw [h_l_17]; exact fr_set (by first | assumption | exact fr_refl _ _ _) (by omega) (by omega) (by omega))) h_19 h_20 h_21 h_22 h_23 h_24 h_25 h_26 h_27 h_28 (by omega) (by omega) (by first | assumption | exact zn_nil (by omega) | (rw [h_l_13]; first | exact zn_out h_31 (by omega) (by omega) | exact zn_in h_31 (by omega) (by omega) (by omega) | exact zn_ext h_31 (by omega) (by omega) (by omega) (by omega) (by omega) | exact zn_out (zn_sub h_31 (by omega) (by omega) (by omega) (by omega)) (by omega) (by omega) | exact zn_out h_33 (by omega) (by omega) | exact zn_in h_33 (by omega) (by omega) (by omega) | exact zn_ext h_33 (by omega) (by omega) (by omega) (by omega) (by omega) | exact zn_out (zn_sub h_33 (by omega) (by omega) (by omega) (by omega)) (by omega) (by omega)) | (exfalso; omega)) (by first | assumption | exact zn_nil (by omega) | (rw [h_l_17]; first | exact zn_out h_32 (by omega) (by omega) | exact zn_in h_32 (by omega) (by omega) (by omega) | exact zn_ext h_32 (by omega) (by omega) (by omega) (by omega) (by omega) | exact zn_out (zn_sub h_32 (by omega) (by omega) (by omega) (by omega)) (by omega) (by omega) | exact zn_out h_34 (by omega) (by omega) | exact zn_in h_34 (by omega) (by omega) (by omega) | exact zn_ext h_34 (by omega) (by omega) (by omega) (by omega) (by omega) | exact zn_out (zn_sub h_34 (by omega) (by omega) (by omega) (by omega)) (by omega) (by omega)) | (exfalso; omega)) (by first | assumption | exact zn_nil (by omega) | (rw [h_l_13]; first | exact zn_out h_31 (by omega) (by omega) | exact zn_in h_31 (by omega) (by omega) (by omega) | exact zn_ext h_31 (by omega) (by omega) (by omega) (by omega) (by omega) | exact zn_out (zn_sub h_31 (by omega) (by omega) (by omega) (by omega)) (by omega) (by omega) | exact zn_out h_33 (by omega) (by omega) | exact zn_in h_33 (by omega) (by omega) (by omega) | exact zn_ext h_33 (by omega) (by omega) (by omega) (by omega) (by omega) | exact zn_out (zn_sub h_33 (by omega) (by omega) (by omega) (by omega)) (by omega) (by omega)) | (exfalso; omega)) (by first | assumption | exact zn_nil (by omega) | (rw [h_l_17]; first | exact zn_out h_32 (by omega) (by omega) | exact zn_in h_32 (by omega) (by omega) (by omega) | exact zn_ext h_32 (by omega) (by omega) (by omega) (by omega) (by omega) | exact zn_out (zn_sub h_32 (by omega) (by omega) (by omega) (by omega)) (by omega) (by omega) | exact zn_out h_34 (by omega) (by omega) | exact zn_in h_34 (by omega) (by omega) (by omega) | exact zn_ext h_34 (by omega) (by omega) (by omega) (by omega) (by omega) | exact zn_out (zn_sub h_34 (by omega) (by omega) (by omega) (by omega)) (by omega) (by omega)) | (exfalso; omega)) (by omega)) (fun z_wv_shapeRows__32 z_wv_shapeColumns__33 z_wv_row__34 z_wv_column__35 z_wv_below__36 z_wv_face__37 z_wv_worn__38 z_wv_lastBend__39 ⟨q_40, q_41, q_42, q_43, q_44, q_45, q_46, q_47, q_48, q_49, q_50, q_51, q_52, q_53, q_54⟩ => ?_)
      exact ⟨(by assumption), (by assumption), (by assumption), (by assumption), (by assumption), (by assumption), (by assumption), (by assumption), (by first | assumption | exact fr_refl _ _ _), (by first | assumption | exact fr_refl _ _ _), (by first | assumption | exact fr_refl _ _ _), (by first | assumption | exact fr_refl _ _ _), (by first | assumption | exact (show lvI _ _ _ _ _ _ _ by assumption) _ (by omega) | exact lv9_fr (by assumption) (by assumption) (by assumption) (by assumption) (by assumption) (by omega) (by omega) (by omega) (by omega) (by omega) | exact ⟨by omega, by omega, by omega, by omega, (by first | assumption | exact zn_nil (by omega) | (exfalso; omega)), (by first | assumption | exact zn_nil (by omega) | (exfalso; omega))⟩), (by omega), (by omega)⟩

theorem uf_X9_copies (N : Nat) (x1 : Int32) (x2 : Int32) (v_shapeRows : List Int32) (v_shapeColumns : List Int32) (v_row : List Int32) (v_column : List Int32) (v_below : List Int32) (v_face : List Int32) (v_worn : List Int32) (v_lastBend : List Int32) : fX9_copies N x1 x2 v_shapeRows v_shapeColumns v_row v_column v_below v_face v_worn v_lastBend = mm_ck (mm_inb x1 v_shapeRows.length) (mm_nm ((mm_ig v_shapeRows x1)) (fun (y_2 : Int32) =>
    mm_ck (mm_inb x2 v_shapeRows.length) (mm_nm (mm_is v_shapeRows x2 y_2) (fun (l_4 : List Int32) =>
    mm_ck (mm_inb x1 v_shapeColumns.length) (mm_nm ((mm_ig v_shapeColumns x1)) (fun (y_6 : Int32) =>
    mm_ck (mm_inb x2 v_shapeColumns.length) (mm_nm (mm_is v_shapeColumns x2 y_6) (fun (l_8 : List Int32) =>
    fX9_copies_26 N N x1 x2 (0 : Int32) l_4 l_8 v_row v_column v_below v_face v_worn v_lastBend)))))))) := rfl

set_option maxHeartbeats 4000000 in
set_option maxRecDepth 20000 in
theorem sf_X9_copies {N : Nat} (hN : 700 ≤ N) {u_row : List Int32} {u_col : List Int32} {u_sR : List Int32} {u_sC : List Int32} {A : Int} {B9 : Int} {a9 : Int} {b9 : Int} {R9 : Int32} {C9 : Int32} {x1 : Int32} {x2 : Int32} {v_shapeRows : List Int32} {v_shapeColumns : List Int32} {v_row : List Int32} {v_column : List Int32} {v_below : List Int32} {v_face : List Int32} {v_worn : List Int32} {v_lastBend : List Int32} (h_0 : v_shapeRows.length = 6) (h_1 : v_shapeColumns.length = 6) (h_2 : v_row.length = 192) (h_3 : v_column.length = 192) (h_4 : v_below.length = 192) (h_5 : v_face.length = 192) (h_6 : v_worn.length = 384) (h_7 : v_lastBend.length = 384) (h_8 : 0 ≤ x1.toInt) (h_9 : x1.toInt ≤ 5) (h_10 : 0 ≤ x2.toInt) (h_11 : x2.toInt ≤ 5) (h_12 : (x1.toInt < x2.toInt ∨ x2.toInt < x1.toInt)) (h_13 : 1 ≤ R9.toInt * C9.toInt) (h_14 : R9.toInt * C9.toInt ≤ 32) (h_15 : fr u_row v_row A B9) (h_16 : fr u_col v_column A B9) (h_17 : fr u_sR v_shapeRows a9 b9) (h_18 : fr u_sC v_shapeColumns a9 b9) (h_19 : A ≤ 32 * x2.toInt) (h_20 : 32 * x2.toInt + 32 ≤ B9) (h_21 : a9 ≤ x2.toInt) (h_22 : x2.toInt < b9) (h_23 : lv9 R9 C9 v_shapeRows v_shapeColumns v_row v_column x1) : wp (fX9_copies N x1 x2 v_shapeRows v_shapeColumns v_row v_column v_below v_face v_worn v_lastBend) (cu8 (fun (wv_shapeRows : List Int32) (wv_shapeColumns : List Int32) (wv_row : List Int32) (wv_column : List Int32) (wv_below : List Int32) (wv_face : List Int32) (wv_worn : List Int32) (wv_lastBend : List Int32) => wv_shapeRows.length = 6 ∧ wv_shapeColumns.length = 6 ∧ wv_row.length = 192 ∧ wv_column.length = 192 ∧ wv_below.length = 192 ∧ wv_face.length = 192 ∧ wv_worn.length = 384 ∧ wv_lastBend.length = 384 ∧ fr u_row wv_row A B9 ∧ fr u_col wv_column A B9 ∧ fr u_sR wv_shapeRows a9 b9 ∧ fr u_sC wv_shapeColumns a9 b9 ∧ lv9 R9 C9 wv_shapeRows wv_shapeColumns wv_row wv_column x2 ∧ (mm_ig wv_shapeRows x2).toInt = (mm_ig v_shapeRows x1).toInt ∧ (mm_ig wv_shapeColumns x2).toInt = (mm_ig v_shapeColumns x1).toInt)) := by
  obtain ⟨l1, l2, l3, l4, l5, l6⟩ := id (show lv9 R9 C9 v_shapeRows v_shapeColumns v_row v_column x1 by assumption)
  refine wp_of (uf_X9_copies _ _ _ _ _ _ _ _ _ _ _) ?_
  refine wp_ck (i_inb (by omega) (by omega)) ?_
  refine wp_nm (fun y_2 h_y_2 => ?_)
  have t_y_2 : y_2.toInt = ((mm_ig v_shapeRows x1)).toInt := by rw [h_y_2]
  refine wp_ck (i_inb (by omega) (by omega)) ?_
  refine wp_nm (fun l_4 h_l_4 => ?_)
  have nl_l_4 : l_4.length = 6 := by rw [h_l_4, is_len]; assumption
  have w_l_4 : (mm_ig l_4 x2).toInt = (y_2).toInt := by rw [h_l_4, ig_is _ _ _ _ (by omega) (by omega) (by omega), if_pos rfl]
  have wx_l_4_x1 : (mm_ig l_4 x1).toInt = (mm_ig v_shapeRows x1).toInt := by rw [h_l_4, ig_is _ _ _ _ (by omega) (by omega) (by omega), if_neg (by omega)]
  refine wp_ck (i_inb (by omega) (by omega)) ?_
  refine wp_nm (fun y_6 h_y_6 => ?_)
  have t_y_6 : y_6.toInt = ((mm_ig v_shapeColumns x1)).toInt := by rw [h_y_6]
  refine wp_ck (i_inb (by omega) (by omega)) ?_
  refine wp_nm (fun l_8 h_l_8 => ?_)
  have nl_l_8 : l_8.length = 6 := by rw [h_l_8, is_len]; assumption
  have w_l_8 : (mm_ig l_8 x2).toInt = (y_6).toInt := by rw [h_l_8, ig_is _ _ _ _ (by omega) (by omega) (by omega), if_pos rfl]
  have wx_l_8_x1 : (mm_ig l_8 x1).toInt = (mm_ig v_shapeColumns x1).toInt := by rw [h_l_8, ig_is _ _ _ _ (by omega) (by omega) (by omega), if_neg (by omega)]
  have n_3 : (0 : Int32).toInt = 0 := by decide
  refine wp_cu8 (sf_X9_copies_26_a (u_row := u_row) (u_col := u_col) (u_sR := u_sR) (u_sC := u_sC) (A := A) (B9 := B9) (a9 := a9) (b9 := b9) (R9 := R9) (C9 := C9) hN _ _ _ _ _ _ _ _ _ _ _ _ nl_l_4 nl_l_8 h_2 h_3 h_4 h_5 h_6 h_7 (by omega) (by omega) h_8 h_9 h_10 h_11 h_12 h_13 h_14 h_15 h_16 (by first | assumption | exact fr_refl _ _ _ | (rw [h_l_4]; exact fr_set (by first | assumption | exact fr_refl _ _ _) (by omega) (by omega) (by omega))) (by first | assumption | exact fr_refl _ _ _ | (rw [h_l_8]; exact fr_set (by first | assumption | exact fr_refl _ _ _) (by omega) (by omega) (by omega))) h_19 h_20 h_21 h_22 (by omega) (by omega) (by omega) (by omega) (by omega) (by omega) (by first | assumption | exact zn_nil (by omega) | exact zn_sub l5 (by omega) (by omega) (by omega) (by omega) | (exfalso; omega)) (by first | assumption | exact zn_nil (by omega) | exact zn_sub l6 (by omega) (by omega) (by omega) (by omega) | (exfalso; omega)) (by first | assumption | exact zn_nil (by omega) | exact zn_sub l5 (by omega) (by omega) (by omega) (by omega) | (exfalso; omega)) (by first | assumption | exact zn_nil (by omega) | exact zn_sub l6 (by omega) (by omega) (by omega) (by omega) | (exfalso; omega)) (by omega)) (fun z_wv_shapeRows z_wv_shapeColumns z_wv_row z_wv_column z_wv_below z_wv_face z_wv_worn z_wv_lastBend ⟨q_4, q_5, q_6, q_7, q_8, q_9, q_10, q_11, q_12, q_13, q_14, q_15, q_16, q_17, q_18⟩ => ?_)
  exact ⟨(by assumption), (by assumption), (by assumption), (by assumption), (by assumption), (by assumption), (by assumption), (by assumption), (by first | assumption | exact fr_refl _ _ _), (by first | assumption | exact fr_refl _ _ _), (by first | assumption | exact fr_refl _ _ _), (by first | assumption | exact fr_refl _ _ _), (by first | assumption | exact (show lvI _ _ _ _ _ _ _ by assumption) _ (by omega) | exact lv9_fr (by assumption) (by assumption) (by assumption) (by assumption) (by assumption) (by omega) (by omega) (by omega) (by omega) (by omega) | exact ⟨by omega, by omega, by omega, by omega, (by first | assumption | exact zn_nil (by omega) | (exfalso; omega)), (by first | assumption | exact zn_nil (by omega) | (exfalso; omega))⟩), (by omega), (by omega)⟩

theorem uf_X9_halvings_4 (N : Nat) (n : Nat) (x1 : Int32) (x2 : Int32) : fX9_halvings_4 N (n + 1) x1 x2 = 
    if x2 ≤ (1 : Int32) then
    (some (x1))
    else (mm_nm (x1 + (1 : Int32)) (fun (y_2 : Int32) =>
    mm_ck (mm_nz (2 : Int32)) (mm_nm (((x2 + (1 : Int32)) / (2 : Int32))) (fun (y_4 : Int32) =>
    fX9_halvings_4 N n y_2 y_4)))) := rfl

set_option maxHeartbeats 4000000 in
set_option maxRecDepth 20000 in
theorem sf_X9_halvings_4 {N : Nat} (hN : 700 ≤ N) {x0 : Int32} : ∀ (n : Nat) (x1 : Int32) (x2 : Int32), x2.toInt ≤ 8 → 0 ≤ x1.toInt → x1.toInt ≤ 8 → (2 ≤ x2.toInt → x1.toInt + x2.toInt ≤ 9) → (2 ≤ x0.toInt → (1 ≤ x1.toInt ∨ 2 ≤ x2.toInt)) → (x2.toInt).toNat < n → wp (fX9_halvings_4 N n x1 x2) (fun (r : Int32) => 0 ≤ r.toInt ∧ r.toInt ≤ 8 ∧ ((2 ≤ x0.toInt → 1 ≤ r.toInt))) := by
  intro n
  induction n with
  | zero =>
    intro x1 x2 h_0 h_1 h_2 h_3 h_4 hm
    exact absurd hm (by omega)
  | succ n ih =>
    intro x1 x2 h_0 h_1 h_2 h_3 h_4 hm
    refine wp_of (uf_X9_halvings_4 _ _ _ _) ?_
    have n_2 : (1 : Int32).toInt = 1 := by decide
    refine wp_if (fun c_1 => ?_) (fun c_1 => ?_)
    ·
      have dc_1 := i_le c_1
      exact wp_so1 ⟨h_1, h_2, (by omega)⟩
    ·
      have dc_1 := i_nle c_1
      refine wp_nm (fun y_2 h_y_2 => ?_)
      have e_3 := i_addE h_y_2.symm (by omega) (by omega)
      have n_4 : (2 : Int32).toInt = 2 := by decide
      refine wp_ck (i_nz (by omega)) ?_
      generalize hz_z : (x2 + (1 : Int32)) = z
      first | have e_5 := i_addE hz_z (by omega) (by omega) | obtain ⟨k_5, e_5, e1_5, e2_5⟩ := i_addY hz_z
      refine wp_nm (fun y_4 h_y_4 => ?_)
      have e_6 := i_divL (c := 2) (by decide) (by decide) h_y_4.symm
      exact ih _ _ (by omega) (by omega) (by omega) (by omega) (by omega) (by omega)

theorem uf_X9_halvings (N : Nat) (x0 : Int32) : fX9_halvings N x0 = fX9_halvings_4 N N (0 : Int32) x0 := rfl

set_option maxHeartbeats 4000000 in
set_option maxRecDepth 20000 in
theorem sf_X9_halvings {N : Nat} (hN : 700 ≤ N) {x0 : Int32} (h_0 : x0.toInt ≤ 8) : wp (fX9_halvings N x0) (fun (r : Int32) => 0 ≤ r.toInt ∧ r.toInt ≤ 8 ∧ ((2 ≤ x0.toInt → 1 ≤ r.toInt))) := by
  refine wp_of (uf_X9_halvings _ _) ?_
  have n_1 : (0 : Int32).toInt = 0 := by decide
  exact sf_X9_halvings_4 hN _ _ _ h_0 (by omega) (by omega) (by omega) (by omega) (by omega)
end
section
/-! safe -/
theorem uf_X9_image (N : Nat) (v_rowsOf : Int32) (v_columnsOf : Int32) (v_folded : Int32) (v_wronged : Int32) (v_isKept : Bool) (v_imageRows : Int32) (v_imageColumns : Int32) (v_imageFolded : Int32) (v_imageWronged : Int32) (v_shapeRows : List Int32) (v_shapeColumns : List Int32) (v_row : List Int32) (v_column : List Int32) (v_below : List Int32) (v_face : List Int32) (v_worn : List Int32) (v_lastBend : List Int32) : fX9_image N v_rowsOf v_columnsOf v_folded v_wronged v_isKept v_imageRows v_imageColumns v_imageFolded v_imageWronged v_shapeRows v_shapeColumns v_row v_column v_below v_face v_worn v_lastBend = mm_bd8 (fX9_copies N (0 : Int32) (5 : Int32) v_shapeRows v_shapeColumns v_row v_column v_below v_face v_worn v_lastBend) (fun (w_1 : List Int32) (w_2 : List Int32) (w_3 : List Int32) (w_4 : List Int32) (w_5 : List Int32) (w_6 : List Int32) (w_7 : List Int32) (w_8 : List Int32) =>
    some (v_folded, true, v_rowsOf, v_columnsOf, v_folded, v_wronged, w_1, w_2, w_3, w_4, w_5, w_6, w_7, w_8)) := rfl

set_option maxHeartbeats 4000000 in
set_option maxRecDepth 20000 in
theorem sf_X9_image {N : Nat} (hN : 700 ≤ N) {u_row : List Int32} {u_col : List Int32} {u_sR : List Int32} {u_sC : List Int32} {A : Int} {B9 : Int} {a9 : Int} {b9 : Int} {v_rowsOf : Int32} {v_columnsOf : Int32} {v_folded : Int32} {v_wronged : Int32} {v_isKept : Bool} {v_imageRows : Int32} {v_imageColumns : Int32} {v_imageFolded : Int32} {v_imageWronged : Int32} {v_shapeRows : List Int32} {v_shapeColumns : List Int32} {v_row : List Int32} {v_column : List Int32} {v_below : List Int32} {v_face : List Int32} {v_worn : List Int32} {v_lastBend : List Int32} (h_0 : 1 ≤ v_rowsOf.toInt) (h_1 : v_rowsOf.toInt ≤ 4) (h_2 : 1 ≤ v_columnsOf.toInt) (h_3 : v_columnsOf.toInt ≤ 8) (h_4 : v_shapeRows.length = 6) (h_5 : v_shapeColumns.length = 6) (h_6 : v_row.length = 192) (h_7 : v_column.length = 192) (h_8 : v_below.length = 192) (h_9 : v_face.length = 192) (h_10 : v_worn.length = 384) (h_11 : v_lastBend.length = 384) (h_12 : fr u_row v_row A B9) (h_13 : fr u_col v_column A B9) (h_14 : fr u_sR v_shapeRows a9 b9) (h_15 : fr u_sC v_shapeColumns a9 b9) (h_16 : A ≤ 32 * (5 : Int32).toInt) (h_17 : 32 * (5 : Int32).toInt + 32 ≤ B9) (h_18 : a9 ≤ (5 : Int32).toInt) (h_19 : (5 : Int32).toInt < b9) (h_20 : lv9 v_rowsOf v_columnsOf v_shapeRows v_shapeColumns v_row v_column (0 : Int32)) : wp (fX9_image N v_rowsOf v_columnsOf v_folded v_wronged v_isKept v_imageRows v_imageColumns v_imageFolded v_imageWronged v_shapeRows v_shapeColumns v_row v_column v_below v_face v_worn v_lastBend) (cu14 (fun (r : Int32) (wv_isKept : Bool) (wv_imageRows : Int32) (wv_imageColumns : Int32) (wv_imageFolded : Int32) (wv_imageWronged : Int32) (wv_shapeRows : List Int32) (wv_shapeColumns : List Int32) (wv_row : List Int32) (wv_column : List Int32) (wv_below : List Int32) (wv_face : List Int32) (wv_worn : List Int32) (wv_lastBend : List Int32) => wv_shapeRows.length = 6 ∧ wv_shapeColumns.length = 6 ∧ wv_row.length = 192 ∧ wv_column.length = 192 ∧ wv_below.length = 192 ∧ wv_face.length = 192 ∧ wv_worn.length = 384 ∧ wv_lastBend.length = 384 ∧ fr u_row wv_row A B9 ∧ fr u_col wv_column A B9 ∧ fr u_sR wv_shapeRows a9 b9 ∧ fr u_sC wv_shapeColumns a9 b9 ∧ lv9 wv_imageRows wv_imageColumns wv_shapeRows wv_shapeColumns wv_row wv_column (5 : Int32) ∧ 1 ≤ wv_imageRows.toInt ∧ wv_imageRows.toInt ≤ 4 ∧ 1 ≤ wv_imageColumns.toInt ∧ wv_imageColumns.toInt ≤ 8)) := by
  have m3 := (i_fl (a := v_rowsOf) (b := v_columnsOf) (by omega) (by omega) (by omega) (by omega)).2
  refine wp_of (uf_X9_image _ _ _ _ _ _ _ _ _ _ _ _ _ _ _ _ _ _) ?_
  have n_1 : (0 : Int32).toInt = 0 := by decide
  have n_2 : (5 : Int32).toInt = 5 := by decide
  refine wp_bd8 (sf_X9_copies (u_row := u_row) (u_col := u_col) (u_sR := u_sR) (u_sC := u_sC) (A := A) (B9 := B9) (a9 := a9) (b9 := b9) (R9 := v_rowsOf) (C9 := v_columnsOf) hN h_4 h_5 h_6 h_7 h_8 h_9 h_10 h_11 (by omega) (by omega) (by omega) (by omega) (by omega) (by omega) (by omega) h_12 h_13 h_14 h_15 h_16 h_17 h_18 h_19 (by first | assumption | exact (show lvI _ _ _ _ _ _ _ by assumption) _ (by omega) | exact lv9_fr (by assumption) (by assumption) (by assumption) (by assumption) (by assumption) (by omega) (by omega) (by omega) (by omega) (by omega) | exact ⟨by omega, by omega, by omega, by omega, (by first | assumption | exact zn_nil (by omega) | (exfalso; omega)), (by first | assumption | exact zn_nil (by omega) | (exfalso; omega))⟩)) (fun w_1 w_2 w_3 w_4 w_5 w_6 w_7 w_8 ⟨q_3, q_4, q_5, q_6, q_7, q_8, q_9, q_10, q_11, q_12, q_13, q_14, q_15, q_16, q_17⟩ => ?_)
  exact wp_so14 ⟨q_3, q_4, q_5, q_6, q_7, q_8, q_9, q_10, q_11, q_12, q_13, q_14, (by first | assumption | exact (show lvI _ _ _ _ _ _ _ by assumption) _ (by omega) | exact lv9_fr (by assumption) (by assumption) (by assumption) (by assumption) (by assumption) (by omega) (by omega) (by omega) (by omega) (by omega) | exact ⟨by omega, by omega, by omega, by omega, (by first | assumption | exact zn_nil (by omega) | (exfalso; omega)), (by first | assumption | exact zn_nil (by omega) | (exfalso; omega))⟩), h_0, h_1, h_2, h_3⟩

theorem uf_X9_back (N : Nat) (v_rowsOf : Int32) (v_columnsOf : Int32) (v_folded : Int32) (v_wronged : Int32) (v_isKept : Bool) (v_imageRows : Int32) (v_imageColumns : Int32) (v_imageFolded : Int32) (v_imageWronged : Int32) (v_shapeRows : List Int32) (v_shapeColumns : List Int32) (v_row : List Int32) (v_column : List Int32) (v_below : List Int32) (v_face : List Int32) (v_worn : List Int32) (v_lastBend : List Int32) : fX9_back N v_rowsOf v_columnsOf v_folded v_wronged v_isKept v_imageRows v_imageColumns v_imageFolded v_imageWronged v_shapeRows v_shapeColumns v_row v_column v_below v_face v_worn v_lastBend = if v_isKept = false then
    (some ((-5 : Int32), v_rowsOf, v_columnsOf, v_folded, v_wronged, v_shapeRows, v_shapeColumns, v_row, v_column, v_below, v_face, v_worn, v_lastBend))
    else (mm_bd8 (fX9_copies N (5 : Int32) (0 : Int32) v_shapeRows v_shapeColumns v_row v_column v_below v_face v_worn v_lastBend) (fun (w_2 : List Int32) (w_3 : List Int32) (w_4 : List Int32) (w_5 : List Int32) (w_6 : List Int32) (w_7 : List Int32) (w_8 : List Int32) (w_9 : List Int32) =>
    some (v_imageFolded, v_imageRows, v_imageColumns, v_imageFolded, v_imageWronged, w_2, w_3, w_4, w_5, w_6, w_7, w_8, w_9))) := rfl

set_option maxHeartbeats 4000000 in
set_option maxRecDepth 20000 in
theorem sf_X9_back {N : Nat} (hN : 700 ≤ N) {u_row : List Int32} {u_col : List Int32} {u_sR : List Int32} {u_sC : List Int32} {A : Int} {B9 : Int} {a9 : Int} {b9 : Int} {v_rowsOf : Int32} {v_columnsOf : Int32} {v_folded : Int32} {v_wronged : Int32} {v_isKept : Bool} {v_imageRows : Int32} {v_imageColumns : Int32} {v_imageFolded : Int32} {v_imageWronged : Int32} {v_shapeRows : List Int32} {v_shapeColumns : List Int32} {v_row : List Int32} {v_column : List Int32} {v_below : List Int32} {v_face : List Int32} {v_worn : List Int32} {v_lastBend : List Int32} (h_0 : 1 ≤ v_rowsOf.toInt) (h_1 : v_rowsOf.toInt ≤ 4) (h_2 : 1 ≤ v_columnsOf.toInt) (h_3 : v_columnsOf.toInt ≤ 8) (h_4 : v_shapeRows.length = 6) (h_5 : v_shapeColumns.length = 6) (h_6 : v_row.length = 192) (h_7 : v_column.length = 192) (h_8 : v_below.length = 192) (h_9 : v_face.length = 192) (h_10 : v_worn.length = 384) (h_11 : v_lastBend.length = 384) (h_12 : fr u_row v_row A B9) (h_13 : fr u_col v_column A B9) (h_14 : fr u_sR v_shapeRows a9 b9) (h_15 : fr u_sC v_shapeColumns a9 b9) (h_16 : A ≤ 32 * (0 : Int32).toInt) (h_17 : 32 * (0 : Int32).toInt + 32 ≤ B9) (h_18 : a9 ≤ (0 : Int32).toInt) (h_19 : (0 : Int32).toInt < b9) (h_20 : ¬ (v_isKept = false)) (h_21 : 1 ≤ v_imageRows.toInt) (h_22 : v_imageRows.toInt ≤ 4) (h_23 : 1 ≤ v_imageColumns.toInt) (h_24 : v_imageColumns.toInt ≤ 8) (h_25 : lv9 v_imageRows v_imageColumns v_shapeRows v_shapeColumns v_row v_column (5 : Int32)) : wp (fX9_back N v_rowsOf v_columnsOf v_folded v_wronged v_isKept v_imageRows v_imageColumns v_imageFolded v_imageWronged v_shapeRows v_shapeColumns v_row v_column v_below v_face v_worn v_lastBend) (cu13 (fun (r : Int32) (wv_rowsOf : Int32) (wv_columnsOf : Int32) (wv_folded : Int32) (wv_wronged : Int32) (wv_shapeRows : List Int32) (wv_shapeColumns : List Int32) (wv_row : List Int32) (wv_column : List Int32) (wv_below : List Int32) (wv_face : List Int32) (wv_worn : List Int32) (wv_lastBend : List Int32) => 1 ≤ wv_rowsOf.toInt ∧ wv_rowsOf.toInt ≤ 4 ∧ 1 ≤ wv_columnsOf.toInt ∧ wv_columnsOf.toInt ≤ 8 ∧ wv_shapeRows.length = 6 ∧ wv_shapeColumns.length = 6 ∧ wv_row.length = 192 ∧ wv_column.length = 192 ∧ wv_below.length = 192 ∧ wv_face.length = 192 ∧ wv_worn.length = 384 ∧ wv_lastBend.length = 384 ∧ fr u_row wv_row A B9 ∧ fr u_col wv_column A B9 ∧ fr u_sR wv_shapeRows a9 b9 ∧ fr u_sC wv_shapeColumns a9 b9 ∧ lv9 wv_rowsOf wv_columnsOf wv_shapeRows wv_shapeColumns wv_row wv_column (0 : Int32))) := by
  have m3 := (i_fl (a := v_imageRows) (b := v_imageColumns) (by omega) (by omega) (by omega) (by omega)).2
  refine wp_of (uf_X9_back _ _ _ _ _ _ _ _ _ _ _ _ _ _ _ _ _ _) ?_
  refine wp_ifn h_20 ?_
  have n_1 : (5 : Int32).toInt = 5 := by decide
  have n_2 : (0 : Int32).toInt = 0 := by decide
  refine wp_bd8 (sf_X9_copies (u_row := u_row) (u_col := u_col) (u_sR := u_sR) (u_sC := u_sC) (A := A) (B9 := B9) (a9 := a9) (b9 := b9) (R9 := v_imageRows) (C9 := v_imageColumns) hN h_4 h_5 h_6 h_7 h_8 h_9 h_10 h_11 (by omega) (by omega) (by omega) (by omega) (by omega) (by omega) (by omega) h_12 h_13 h_14 h_15 h_16 h_17 h_18 h_19 (by first | assumption | exact (show lvI _ _ _ _ _ _ _ by assumption) _ (by omega) | exact lv9_fr (by assumption) (by assumption) (by assumption) (by assumption) (by assumption) (by omega) (by omega) (by omega) (by omega) (by omega) | exact ⟨by omega, by omega, by omega, by omega, (by first | assumption | exact zn_nil (by omega) | (exfalso; omega)), (by first | assumption | exact zn_nil (by omega) | (exfalso; omega))⟩)) (fun w_2 w_3 w_4 w_5 w_6 w_7 w_8 w_9 ⟨q_3, q_4, q_5, q_6, q_7, q_8, q_9, q_10, q_11, q_12, q_13, q_14, q_15, q_16, q_17⟩ => ?_)
  exact wp_so13 ⟨h_21, h_22, h_23, h_24, q_3, q_4, q_5, q_6, q_7, q_8, q_9, q_10, q_11, q_12, q_13, q_14, (by first | assumption | exact (show lvI _ _ _ _ _ _ _ by assumption) _ (by omega) | exact lv9_fr (by assumption) (by assumption) (by assumption) (by assumption) (by assumption) (by omega) (by omega) (by omega) (by omega) (by omega) | exact ⟨by omega, by omega, by omega, by omega, (by first | assumption | exact zn_nil (by omega) | (exfalso; omega)), (by first | assumption | exact zn_nil (by omega) | (exfalso; omega))⟩)⟩

theorem uf_X9_ends1_157 (N : Nat) (n : Nat) (x1 : Int32) (x6 : Int32) (v_rowsOf : Int32) (v_columnsOf : Int32) (v_wishedField : Int32) (v_isFound : Bool) (v_bestWrong : Int32) (v_bestWorn : Int32) (v_bestMany : Int32) (v_row : List Int32) (v_column : List Int32) (v_below : List Int32) (v_way1 : List Int32) (v_bestWay : List Int32) : fX9_ends1_157 N (n + 1) x1 x6 v_rowsOf v_columnsOf v_wishedField v_isFound v_bestWrong v_bestWorn v_bestMany v_row v_column v_below v_way1 v_bestWay = 
    if x1 ≤ x6 then
    (some (v_isFound, v_bestWrong, v_bestWorn, v_bestMany, v_bestWay))
    else (mm_ck (mm_inb x6 v_way1.length) (mm_nm ((mm_ig v_way1 x6)) (fun (y_13 : Int32) =>
    mm_ck (mm_inb x6 v_bestWay.length) (mm_nm (mm_is v_bestWay x6 y_13) (fun (l_15 : List Int32) =>
    mm_nm (x6 + (1 : Int32)) (fun (y_16 : Int32) =>
    fX9_ends1_157 N n x1 y_16 v_rowsOf v_columnsOf v_wishedField v_isFound v_bestWrong v_bestWorn v_bestMany v_row v_column v_below v_way1 l_15)))))) := rfl

set_option maxHeartbeats 4000000 in
set_option maxRecDepth 20000 in
theorem sf_X9_ends1_157 {N : Nat} (hN : 700 ≤ N)  : ∀ (n : Nat) (x1 : Int32) (x6 : Int32) (v_rowsOf : Int32) (v_columnsOf : Int32) (v_wishedField : Int32) (v_isFound : Bool) (v_bestWrong : Int32) (v_bestWorn : Int32) (v_bestMany : Int32) (v_row : List Int32) (v_column : List Int32) (v_below : List Int32) (v_way1 : List Int32) (v_bestWay : List Int32), 1 ≤ v_rowsOf.toInt → v_rowsOf.toInt ≤ 4 → 1 ≤ v_columnsOf.toInt → v_columnsOf.toInt ≤ 8 → 0 ≤ v_bestMany.toInt → v_bestMany.toInt ≤ 3 → v_row.length = 192 → v_column.length = 192 → v_below.length = 192 → v_way1.length = 3 → v_bestWay.length = 3 → 0 ≤ x1.toInt → x1.toInt ≤ 3 → 0 ≤ x6.toInt → x6.toInt ≤ 3 → (4 - x6.toInt).toNat < n → wp (fX9_ends1_157 N n x1 x6 v_rowsOf v_columnsOf v_wishedField v_isFound v_bestWrong v_bestWorn v_bestMany v_row v_column v_below v_way1 v_bestWay) (cu5 (fun (wv_isFound : Bool) (wv_bestWrong : Int32) (wv_bestWorn : Int32) (wv_bestMany : Int32) (wv_bestWay : List Int32) => 0 ≤ wv_bestMany.toInt ∧ wv_bestMany.toInt ≤ 3 ∧ wv_bestWay.length = 3)) := by
  intro n
  induction n with
  | zero =>
    intro x1 x6 v_rowsOf v_columnsOf v_wishedField v_isFound v_bestWrong v_bestWorn v_bestMany v_row v_column v_below v_way1 v_bestWay h_0 h_1 h_2 h_3 h_4 h_5 h_6 h_7 h_8 h_9 h_10 h_11 h_12 h_13 h_14 hm
    exact absurd hm (by omega)
  | succ n ih =>
    intro x1 x6 v_rowsOf v_columnsOf v_wishedField v_isFound v_bestWrong v_bestWorn v_bestMany v_row v_column v_below v_way1 v_bestWay h_0 h_1 h_2 h_3 h_4 h_5 h_6 h_7 h_8 h_9 h_10 h_11 h_12 h_13 h_14 hm
    refine wp_of (uf_X9_ends1_157 _ _ _ _ _ _ _ _ _ _ _ _ _ _ _ _) ?_
    refine wp_if (fun c_1 => ?_) (fun c_1 => ?_)
    ·
      have dc_1 := i_le c_1
      exact wp_so5 ⟨h_4, h_5, h_10⟩
    ·
      have dc_1 := i_nle c_1
      refine wp_ck (i_inb (by omega) (by omega)) ?_
      refine wp_nm (fun y_13 h_y_13 => ?_)
      have t_y_13 : y_13.toInt = ((mm_ig v_way1 x6)).toInt := by rw [h_y_13]
      refine wp_ck (i_inb (by omega) (by omega)) ?_
      refine wp_nm (fun l_15 h_l_15 => ?_)
      have nl_l_15 : l_15.length = 3 := by rw [h_l_15, is_len]; assumption
      have n_2 : (1 : Int32).toInt = 1 := by decide
      refine wp_nm (fun y_16 h_y_16 => ?_)
      have e_3 := i_addE h_y_16.symm (by omega) (by omega)
      exact ih _ _ _ _ _ _ _ _ _ _ _ _ _ _ h_0 h_1 h_2 h_3 h_4 h_5 h_6 h_7 h_8 h_9 nl_l_15 h_11 h_12 (by omega) (by omega) (by omega)

theorem uf_X9_ends1 (N : Nat) (x1 : Int32) (x2 : Int32) (x3 : Int32) (v_rowsOf : Int32) (v_columnsOf : Int32) (v_wishedField : Int32) (v_isFound : Bool) (v_bestWrong : Int32) (v_bestWorn : Int32) (v_bestMany : Int32) (v_row : List Int32) (v_column : List Int32) (v_below : List Int32) (v_way1 : List Int32) (v_bestWay : List Int32) : fX9_ends1 N x1 x2 x3 v_rowsOf v_columnsOf v_wishedField v_isFound v_bestWrong v_bestWorn v_bestMany v_row v_column v_below v_way1 v_bestWay = mm_nm ((x1 + (1 : Int32))) (fun (y_1 : Int32) =>
    if v_wishedField < 0 then
    (fX9_ends1_28 N x1 x2 x3 v_rowsOf v_columnsOf v_wishedField v_isFound v_bestWrong v_bestWorn v_bestMany v_row v_column v_below v_way1 v_bestWay)
    else (mm_bd1 (fX9_topOf N y_1 (0 : Int32) (0 : Int32) v_rowsOf v_columnsOf v_row v_column v_below) (fun (r_3 : Int32) =>
    if r_3 = v_wishedField then
    (fX9_ends1_28 N x1 x2 x3 v_rowsOf v_columnsOf v_wishedField v_isFound v_bestWrong v_bestWorn v_bestMany v_row v_column v_below v_way1 v_bestWay)
    else (some (v_isFound, v_bestWrong, v_bestWorn, v_bestMany, v_bestWay))))) := rfl

theorem uf_X9_ends1_121 (N : Nat) (x1 : Int32) (x2 : Int32) (x3 : Int32) (v_rowsOf : Int32) (v_columnsOf : Int32) (v_wishedField : Int32) (v_isFound : Bool) (v_bestWrong : Int32) (v_bestWorn : Int32) (v_bestMany : Int32) (v_row : List Int32) (v_column : List Int32) (v_below : List Int32) (v_way1 : List Int32) (v_bestWay : List Int32) : fX9_ends1_121 N x1 x2 x3 v_rowsOf v_columnsOf v_wishedField v_isFound v_bestWrong v_bestWorn v_bestMany v_row v_column v_below v_way1 v_bestWay = fX9_ends1_126 N x1 x2 x3 (1 : Int32) v_rowsOf v_columnsOf v_wishedField v_isFound v_bestWrong v_bestWorn v_bestMany v_row v_column v_below v_way1 v_bestWay := rfl

theorem uf_X9_ends1_125 (N : Nat) (x1 : Int32) (x2 : Int32) (x3 : Int32) (v_rowsOf : Int32) (v_columnsOf : Int32) (v_wishedField : Int32) (v_isFound : Bool) (v_bestWrong : Int32) (v_bestWorn : Int32) (v_bestMany : Int32) (v_row : List Int32) (v_column : List Int32) (v_below : List Int32) (v_way1 : List Int32) (v_bestWay : List Int32) : fX9_ends1_125 N x1 x2 x3 v_rowsOf v_columnsOf v_wishedField v_isFound v_bestWrong v_bestWorn v_bestMany v_row v_column v_below v_way1 v_bestWay = fX9_ends1_126 N x1 x2 x3 (0 : Int32) v_rowsOf v_columnsOf v_wishedField v_isFound v_bestWrong v_bestWorn v_bestMany v_row v_column v_below v_way1 v_bestWay := rfl

theorem uf_X9_ends1_126 (N : Nat) (x1 : Int32) (x2 : Int32) (x3 : Int32) (s0 : Int32) (v_rowsOf : Int32) (v_columnsOf : Int32) (v_wishedField : Int32) (v_isFound : Bool) (v_bestWrong : Int32) (v_bestWorn : Int32) (v_bestMany : Int32) (v_row : List Int32) (v_column : List Int32) (v_below : List Int32) (v_way1 : List Int32) (v_bestWay : List Int32) : fX9_ends1_126 N x1 x2 x3 s0 v_rowsOf v_columnsOf v_wishedField v_isFound v_bestWrong v_bestWorn v_bestMany v_row v_column v_below v_way1 v_bestWay = fX9_ends1_128 N x1 x2 x3 s0 v_rowsOf v_columnsOf v_wishedField v_isFound v_bestWrong v_bestWorn v_bestMany v_row v_column v_below v_way1 v_bestWay := rfl

theorem uf_X9_ends1_128 (N : Nat) (x1 : Int32) (x2 : Int32) (x3 : Int32) (x5 : Int32) (v_rowsOf : Int32) (v_columnsOf : Int32) (v_wishedField : Int32) (v_isFound : Bool) (v_bestWrong : Int32) (v_bestWorn : Int32) (v_bestMany : Int32) (v_row : List Int32) (v_column : List Int32) (v_below : List Int32) (v_way1 : List Int32) (v_bestWay : List Int32) : fX9_ends1_128 N x1 x2 x3 x5 v_rowsOf v_columnsOf v_wishedField v_isFound v_bestWrong v_bestWorn v_bestMany v_row v_column v_below v_way1 v_bestWay = if x5 = 0 then
    (some (v_isFound, v_bestWrong, v_bestWorn, v_bestMany, v_bestWay))
    else (fX9_ends1_157 N N x1 (0 : Int32) v_rowsOf v_columnsOf v_wishedField true x2 x3 x1 v_row v_column v_below v_way1 v_bestWay) := rfl

theorem uf_X9_ends1_28 (N : Nat) (x1 : Int32) (x2 : Int32) (x3 : Int32) (v_rowsOf : Int32) (v_columnsOf : Int32) (v_wishedField : Int32) (v_isFound : Bool) (v_bestWrong : Int32) (v_bestWorn : Int32) (v_bestMany : Int32) (v_row : List Int32) (v_column : List Int32) (v_below : List Int32) (v_way1 : List Int32) (v_bestWay : List Int32) : fX9_ends1_28 N x1 x2 x3 v_rowsOf v_columnsOf v_wishedField v_isFound v_bestWrong v_bestWorn v_bestMany v_row v_column v_below v_way1 v_bestWay = if v_isFound = false then
    (fX9_ends1_40 N x1 x2 x3 (1 : Int32) v_rowsOf v_columnsOf v_wishedField v_isFound v_bestWrong v_bestWorn v_bestMany v_row v_column v_below v_way1 v_bestWay)
    else (fX9_ends1_40 N x1 x2 x3 (0 : Int32) v_rowsOf v_columnsOf v_wishedField v_isFound v_bestWrong v_bestWorn v_bestMany v_row v_column v_below v_way1 v_bestWay) := rfl

theorem uf_X9_ends1_40 (N : Nat) (x1 : Int32) (x2 : Int32) (x3 : Int32) (s0 : Int32) (v_rowsOf : Int32) (v_columnsOf : Int32) (v_wishedField : Int32) (v_isFound : Bool) (v_bestWrong : Int32) (v_bestWorn : Int32) (v_bestMany : Int32) (v_row : List Int32) (v_column : List Int32) (v_below : List Int32) (v_way1 : List Int32) (v_bestWay : List Int32) : fX9_ends1_40 N x1 x2 x3 s0 v_rowsOf v_columnsOf v_wishedField v_isFound v_bestWrong v_bestWorn v_bestMany v_row v_column v_below v_way1 v_bestWay = if v_isFound = false then
    (fX9_ends1_74 N x1 x2 x3 s0 v_rowsOf v_columnsOf v_wishedField v_isFound v_bestWrong v_bestWorn v_bestMany v_row v_column v_below v_way1 v_bestWay)
    else (if v_wishedField < 0 then
    (fX9_ends1_74 N x1 x2 x3 s0 v_rowsOf v_columnsOf v_wishedField v_isFound v_bestWrong v_bestWorn v_bestMany v_row v_column v_below v_way1 v_bestWay)
    else (if v_bestMany ≤ x1 then
    (fX9_ends1_69 N x1 x2 x3 (0 : Int32) v_rowsOf v_columnsOf v_wishedField v_isFound v_bestWrong v_bestWorn v_bestMany v_row v_column v_below v_way1 v_bestWay)
    else (fX9_ends1_69 N x1 x2 x3 (1 : Int32) v_rowsOf v_columnsOf v_wishedField v_isFound v_bestWrong v_bestWorn v_bestMany v_row v_column v_below v_way1 v_bestWay))) := rfl

theorem uf_X9_ends1_69 (N : Nat) (x1 : Int32) (x2 : Int32) (x3 : Int32) (s0 : Int32) (v_rowsOf : Int32) (v_columnsOf : Int32) (v_wishedField : Int32) (v_isFound : Bool) (v_bestWrong : Int32) (v_bestWorn : Int32) (v_bestMany : Int32) (v_row : List Int32) (v_column : List Int32) (v_below : List Int32) (v_way1 : List Int32) (v_bestWay : List Int32) : fX9_ends1_69 N x1 x2 x3 s0 v_rowsOf v_columnsOf v_wishedField v_isFound v_bestWrong v_bestWorn v_bestMany v_row v_column v_below v_way1 v_bestWay = fX9_ends1_128 N x1 x2 x3 s0 v_rowsOf v_columnsOf v_wishedField v_isFound v_bestWrong v_bestWorn v_bestMany v_row v_column v_below v_way1 v_bestWay := rfl

theorem uf_X9_ends1_74 (N : Nat) (x1 : Int32) (x2 : Int32) (x3 : Int32) (x5 : Int32) (v_rowsOf : Int32) (v_columnsOf : Int32) (v_wishedField : Int32) (v_isFound : Bool) (v_bestWrong : Int32) (v_bestWorn : Int32) (v_bestMany : Int32) (v_row : List Int32) (v_column : List Int32) (v_below : List Int32) (v_way1 : List Int32) (v_bestWay : List Int32) : fX9_ends1_74 N x1 x2 x3 x5 v_rowsOf v_columnsOf v_wishedField v_isFound v_bestWrong v_bestWorn v_bestMany v_row v_column v_below v_way1 v_bestWay = if v_isFound = false then
    (fX9_ends1_128 N x1 x2 x3 x5 v_rowsOf v_columnsOf v_wishedField v_isFound v_bestWrong v_bestWorn v_bestMany v_row v_column v_below v_way1 v_bestWay)
    else (if x2 < v_bestWrong then
    (fX9_ends1_121 N x1 x2 x3 v_rowsOf v_columnsOf v_wishedField v_isFound v_bestWrong v_bestWorn v_bestMany v_row v_column v_below v_way1 v_bestWay)
    else (if x2 = v_bestWrong then
    (if x3 < v_bestWorn then
    (fX9_ends1_121 N x1 x2 x3 v_rowsOf v_columnsOf v_wishedField v_isFound v_bestWrong v_bestWorn v_bestMany v_row v_column v_below v_way1 v_bestWay)
    else (if x3 = v_bestWorn then
    (if v_bestMany ≤ x1 then
    (fX9_ends1_125 N x1 x2 x3 v_rowsOf v_columnsOf v_wishedField v_isFound v_bestWrong v_bestWorn v_bestMany v_row v_column v_below v_way1 v_bestWay)
    else (fX9_ends1_121 N x1 x2 x3 v_rowsOf v_columnsOf v_wishedField v_isFound v_bestWrong v_bestWorn v_bestMany v_row v_column v_below v_way1 v_bestWay))
    else (fX9_ends1_125 N x1 x2 x3 v_rowsOf v_columnsOf v_wishedField v_isFound v_bestWrong v_bestWorn v_bestMany v_row v_column v_below v_way1 v_bestWay)))
    else (fX9_ends1_125 N x1 x2 x3 v_rowsOf v_columnsOf v_wishedField v_isFound v_bestWrong v_bestWorn v_bestMany v_row v_column v_below v_way1 v_bestWay))) := rfl

set_option maxHeartbeats 4000000 in
set_option maxRecDepth 20000 in
theorem sf_X9_ends1 {N : Nat} (hN : 700 ≤ N) {x1 : Int32} {x2 : Int32} {x3 : Int32} {v_rowsOf : Int32} {v_columnsOf : Int32} {v_wishedField : Int32} {v_isFound : Bool} {v_bestWrong : Int32} {v_bestWorn : Int32} {v_bestMany : Int32} {v_row : List Int32} {v_column : List Int32} {v_below : List Int32} {v_way1 : List Int32} {v_bestWay : List Int32} (h_0 : 1 ≤ v_rowsOf.toInt) (h_1 : v_rowsOf.toInt ≤ 4) (h_2 : 1 ≤ v_columnsOf.toInt) (h_3 : v_columnsOf.toInt ≤ 8) (h_4 : 0 ≤ v_bestMany.toInt) (h_5 : v_bestMany.toInt ≤ 3) (h_6 : v_row.length = 192) (h_7 : v_column.length = 192) (h_8 : v_below.length = 192) (h_9 : v_way1.length = 3) (h_10 : v_bestWay.length = 3) (h_11 : 0 ≤ x1.toInt) (h_12 : x1.toInt ≤ 3) : wp (fX9_ends1 N x1 x2 x3 v_rowsOf v_columnsOf v_wishedField v_isFound v_bestWrong v_bestWorn v_bestMany v_row v_column v_below v_way1 v_bestWay) (cu5 (fun (wv_isFound : Bool) (wv_bestWrong : Int32) (wv_bestWorn : Int32) (wv_bestMany : Int32) (wv_bestWay : List Int32) => 0 ≤ wv_bestMany.toInt ∧ wv_bestMany.toInt ≤ 3 ∧ wv_bestWay.length = 3)) := by
  refine wp_of (uf_X9_ends1 _ _ _ _ _ _ _ _ _ _ _ _ _ _ _ _) ?_
  have n_1 : (1 : Int32).toInt = 1 := by decide
  refine wp_nm (fun y_1 h_y_1 => ?_)
  have e_2 := i_addE h_y_1.symm (by omega) (by omega)
  have n_4 : (0 : Int32).toInt = 0 := by decide
  refine wp_if (fun c_3 => ?_) (fun c_3 => ?_)
  ·
    have dc_3 := i_lt c_3
    refine wp_of (uf_X9_ends1_28 _ _ _ _ _ _ _ _ _ _ _ _ _ _ _ _) ?_
    refine wp_if (fun c_5 => ?_) (fun c_5 => ?_)
    ·
      refine wp_of (uf_X9_ends1_40 _ _ _ _ _ _ _ _ _ _ _ _ _ _ _ _ _) ?_
      refine wp_ifp c_5 ?_
      refine wp_of (uf_X9_ends1_74 _ _ _ _ _ _ _ _ _ _ _ _ _ _ _ _ _) ?_
      refine wp_ifp c_5 ?_
      refine wp_of (uf_X9_ends1_128 _ _ _ _ _ _ _ _ _ _ _ _ _ _ _ _ _) ?_
      refine wp_ifn (by decide) ?_
      exact sf_X9_ends1_157 hN _ _ _ _ _ _ _ _ _ _ _ _ _ _ _ h_0 h_1 h_2 h_3 h_11 h_12 h_6 h_7 h_8 h_9 h_10 h_11 h_12 (by omega) (by omega) (by omega)
    ·
      refine wp_of (uf_X9_ends1_40 _ _ _ _ _ _ _ _ _ _ _ _ _ _ _ _ _) ?_
      refine wp_ifn c_5 ?_
      refine wp_ifp c_3 ?_
      refine wp_of (uf_X9_ends1_74 _ _ _ _ _ _ _ _ _ _ _ _ _ _ _ _ _) ?_
      refine wp_ifn c_5 ?_
      refine wp_if (fun c_7 => ?_) (fun c_7 => ?_)
      ·
        have dc_7 := i_lt c_7
        refine wp_of (uf_X9_ends1_121 _ _ _ _ _ _ _ _ _ _ _ _ _ _ _ _) ?_
        refine wp_of (uf_X9_ends1_126 _ _ _ _ _ _ _ _ _ _ _ _ _ _ _ _ _) ?_
        refine wp_of (uf_X9_ends1_128 _ _ _ _ _ _ _ _ _ _ _ _ _ _ _ _ _) ?_
        refine wp_ifn (by decide) ?_
        exact sf_X9_ends1_157 hN _ _ _ _ _ _ _ _ _ _ _ _ _ _ _ h_0 h_1 h_2 h_3 h_11 h_12 h_6 h_7 h_8 h_9 h_10 h_11 h_12 (by omega) (by omega) (by omega)
      ·
        have dc_7 := i_nlt c_7
        refine wp_if (fun c_8 => ?_) (fun c_8 => ?_)
        ·
          have dc_8 := i_eq c_8
          refine wp_if (fun c_9 => ?_) (fun c_9 => ?_)
          ·
            have dc_9 := i_lt c_9
            refine wp_of (uf_X9_ends1_121 _ _ _ _ _ _ _ _ _ _ _ _ _ _ _ _) ?_
            refine wp_of (uf_X9_ends1_126 _ _ _ _ _ _ _ _ _ _ _ _ _ _ _ _ _) ?_
            refine wp_of (uf_X9_ends1_128 _ _ _ _ _ _ _ _ _ _ _ _ _ _ _ _ _) ?_
            refine wp_ifn (by decide) ?_
            exact sf_X9_ends1_157 hN _ _ _ _ _ _ _ _ _ _ _ _ _ _ _ h_0 h_1 h_2 h_3 h_11 h_12 h_6 h_7 h_8 h_9 h_10 h_11 h_12 (by omega) (by omega) (by omega)
          ·
            have dc_9 := i_nlt c_9
            refine wp_if (fun c_10 => ?_) (fun c_10 => ?_)
            ·
              have dc_10 := i_eq c_10
              refine wp_if (fun c_11 => ?_) (fun c_11 => ?_)
              ·
                have dc_11 := i_le c_11
                refine wp_of (uf_X9_ends1_125 _ _ _ _ _ _ _ _ _ _ _ _ _ _ _ _) ?_
                refine wp_of (uf_X9_ends1_126 _ _ _ _ _ _ _ _ _ _ _ _ _ _ _ _ _) ?_
                refine wp_of (uf_X9_ends1_128 _ _ _ _ _ _ _ _ _ _ _ _ _ _ _ _ _) ?_
                refine wp_ifp (by decide) ?_
                exact wp_so5 ⟨h_4, h_5, h_10⟩
              ·
                have dc_11 := i_nle c_11
                refine wp_of (uf_X9_ends1_121 _ _ _ _ _ _ _ _ _ _ _ _ _ _ _ _) ?_
                refine wp_of (uf_X9_ends1_126 _ _ _ _ _ _ _ _ _ _ _ _ _ _ _ _ _) ?_
                refine wp_of (uf_X9_ends1_128 _ _ _ _ _ _ _ _ _ _ _ _ _ _ _ _ _) ?_
                refine wp_ifn (by decide) ?_
                exact sf_X9_ends1_157 hN _ _ _ _ _ _ _ _ _ _ _ _ _ _ _ h_0 h_1 h_2 h_3 h_11 h_12 h_6 h_7 h_8 h_9 h_10 h_11 h_12 (by omega) (by omega) (by omega)
            ·
              have dc_10 := i_ne c_10
              refine wp_of (uf_X9_ends1_125 _ _ _ _ _ _ _ _ _ _ _ _ _ _ _ _) ?_
              refine wp_of (uf_X9_ends1_126 _ _ _ _ _ _ _ _ _ _ _ _ _ _ _ _ _) ?_
              refine wp_of (uf_X9_ends1_128 _ _ _ _ _ _ _ _ _ _ _ _ _ _ _ _ _) ?_
              refine wp_ifp (by decide) ?_
              exact wp_so5 ⟨h_4, h_5, h_10⟩
        ·
          have dc_8 := i_ne c_8
          refine wp_of (uf_X9_ends1_125 _ _ _ _ _ _ _ _ _ _ _ _ _ _ _ _) ?_
          refine wp_of (uf_X9_ends1_126 _ _ _ _ _ _ _ _ _ _ _ _ _ _ _ _ _) ?_
          refine wp_of (uf_X9_ends1_128 _ _ _ _ _ _ _ _ _ _ _ _ _ _ _ _ _) ?_
          refine wp_ifp (by decide) ?_
          exact wp_so5 ⟨h_4, h_5, h_10⟩
  ·
    have dc_3 := i_nlt c_3
    refine wp_bd1 (sf_X9_topOf hN h_0 h_1 h_2 h_3 h_6 h_7 h_8 (by omega) (by omega)) (fun r_3 _ => ?_)
    refine wp_if (fun c_12 => ?_) (fun c_12 => ?_)
    ·
      have dc_12 := i_eq c_12
      refine wp_of (uf_X9_ends1_28 _ _ _ _ _ _ _ _ _ _ _ _ _ _ _ _) ?_
      refine wp_if (fun c_13 => ?_) (fun c_13 => ?_)
      ·
        refine wp_of (uf_X9_ends1_40 _ _ _ _ _ _ _ _ _ _ _ _ _ _ _ _ _) ?_
        refine wp_ifp c_13 ?_
        refine wp_of (uf_X9_ends1_74 _ _ _ _ _ _ _ _ _ _ _ _ _ _ _ _ _) ?_
        refine wp_ifp c_13 ?_
        refine wp_of (uf_X9_ends1_128 _ _ _ _ _ _ _ _ _ _ _ _ _ _ _ _ _) ?_
        refine wp_ifn (by decide) ?_
        exact sf_X9_ends1_157 hN _ _ _ _ _ _ _ _ _ _ _ _ _ _ _ h_0 h_1 h_2 h_3 h_11 h_12 h_6 h_7 h_8 h_9 h_10 h_11 h_12 (by omega) (by omega) (by omega)
      ·
        refine wp_of (uf_X9_ends1_40 _ _ _ _ _ _ _ _ _ _ _ _ _ _ _ _ _) ?_
        refine wp_ifn c_13 ?_
        refine wp_ifn c_3 ?_
        refine wp_if (fun c_15 => ?_) (fun c_15 => ?_)
        ·
          have dc_15 := i_le c_15
          refine wp_of (uf_X9_ends1_69 _ _ _ _ _ _ _ _ _ _ _ _ _ _ _ _ _) ?_
          refine wp_of (uf_X9_ends1_128 _ _ _ _ _ _ _ _ _ _ _ _ _ _ _ _ _) ?_
          refine wp_ifp (by decide) ?_
          exact wp_so5 ⟨h_4, h_5, h_10⟩
        ·
          have dc_15 := i_nle c_15
          refine wp_of (uf_X9_ends1_69 _ _ _ _ _ _ _ _ _ _ _ _ _ _ _ _ _) ?_
          refine wp_of (uf_X9_ends1_128 _ _ _ _ _ _ _ _ _ _ _ _ _ _ _ _ _) ?_
          refine wp_ifn (by decide) ?_
          exact sf_X9_ends1_157 hN _ _ _ _ _ _ _ _ _ _ _ _ _ _ _ h_0 h_1 h_2 h_3 h_11 h_12 h_6 h_7 h_8 h_9 h_10 h_11 h_12 (by omega) (by omega) (by omega)
    ·
      have dc_12 := i_ne c_12
      exact wp_so5 ⟨h_4, h_5, h_10⟩
end
section
/-! safe -/

def lvI (R C : Int32) (sR sC row col : List Int32) (x : Int) : Prop := ∀ y : Int32, y.toInt = x → lv9 R C sR sC row col y
theorem lvI_of {R C z : Int32} {sR sC row col : List Int32} {x : Int} (h : lv9 R C sR sC row col z) (e : z.toInt = x) : lvI R C sR sC row col x := fun y hy => by
  have : y = z := Int32.toInt_inj.mp (by omega)
  subst this
  exact h

theorem uf_X9_goesDeeper_154 (N : Nat) (go : Int32 → Int32 → Int32 → Int32 → Int32 → Int32 → Int32 → Int32 → Int32 → Int32 → Int32 → Int32 → Int32 → Int32 → Int32 → Bool → Int32 → Int32 → Int32 → List Int32 → List Int32 → List Int32 → List Int32 → List Int32 → List Int32 → List Int32 → List Int32 → List Int32 → List Int32 → List Int32 → List Int32 → List Int32 → List Int32 → List Int32 → List Int32 → List Int32 → List Int32 → Option (Int32 × Int32 × Int32 × Int32 × Int32 × Int32 × Int32 × Int32 × Bool × Int32 × Int32 × Int32 × List Int32 × List Int32 × List Int32 × List Int32 × List Int32 × List Int32 × List Int32 × List Int32 × List Int32 × List Int32 × List Int32 × List Int32 × List Int32 × List Int32 × List Int32)) (k_66 : Int32 → Int32 → Int32 → Int32 → Int32 → Int32 → Int32 → Int32 → Int32 → Int32 → Int32 → Int32 → Int32 → Int32 → Int32 → Int32 → Int32 → Bool → Int32 → Int32 → Int32 → List Int32 → List Int32 → List Int32 → List Int32 → List Int32 → List Int32 → List Int32 → List Int32 → List Int32 → List Int32 → List Int32 → List Int32 → List Int32 → List Int32 → List Int32 → List Int32 → List Int32 → List Int32 → Option (Int32 × Int32 × Int32 × Int32 × Int32 × Int32 × Int32 × Int32 × Bool × Int32 × Int32 × Int32 × List Int32 × List Int32 × List Int32 × List Int32 × List Int32 × List Int32 × List Int32 × List Int32 × List Int32 × List Int32 × List Int32 × List Int32 × List Int32 × List Int32 × List Int32)) (k_76 : Int32 → Int32 → Int32 → Int32 → Int32 → Int32 → Int32 → Int32 → Int32 → Int32 → Int32 → Int32 → Int32 → Int32 → Int32 → Int32 → Int32 → Int32 → Bool → Int32 → Int32 → Int32 → List Int32 → List Int32 → List Int32 → List Int32 → List Int32 → List Int32 → List Int32 → List Int32 → List Int32 → List Int32 → List Int32 → List Int32 → List Int32 → List Int32 → List Int32 → List Int32 → List Int32 → List Int32 → Option (Int32 × Int32 × Int32 × Int32 × Int32 × Int32 × Int32 × Int32 × Bool × Int32 × Int32 × Int32 × List Int32 × List Int32 × List Int32 × List Int32 × List Int32 × List Int32 × List Int32 × List Int32 × List Int32 × List Int32 × List Int32 × List Int32 × List Int32 × List Int32 × List Int32)) (x1 : Int32) (x2 : Int32) (x3 : Int32) (x4 : Int32) (x5 : Int32) (x6 : Int32) (v_rowsOf : Int32) (v_columnsOf : Int32) (v_textMany : Int32) (v_base : Int32) (v_at : Int32) (v_ends : Int32) (v_fault : Int32) (v_opened : Int32) (v_bentMany : Int32) (v_bentWrong : Int32) (v_moreWorn : Int32) (v_wishedField : Int32) (v_isFound : Bool) (v_bestWrong : Int32) (v_bestWorn : Int32) (v_bestMany : Int32) (v_limit : List Int32) (v_shapeRows : List Int32) (v_shapeColumns : List Int32) (v_row : List Int32) (v_column : List Int32) (v_below : List Int32) (v_face : List Int32) (v_worn : List Int32) (v_lastBend : List Int32) (v_tape : List Int32) (v_text : List Int32) (v_names : List Int32) (v_bends : List Int32) (v_high : List Int32) (v_to : List Int32) (v_pileSize : List Int32) (v_way1 : List Int32) (v_bestWay : List Int32) : fX9_goesDeeper_154 N go k_66 k_76 x1 x2 x3 x4 x5 x6 v_rowsOf v_columnsOf v_textMany v_base v_at v_ends v_fault v_opened v_bentMany v_bentWrong v_moreWorn v_wishedField v_isFound v_bestWrong v_bestWorn v_bestMany v_limit v_shapeRows v_shapeColumns v_row v_column v_below v_face v_worn v_lastBend v_tape v_text v_names v_bends v_high v_to v_pileSize v_way1 v_bestWay = mm_nm (x6 + (1 : Int32)) (fun (y_87 : Int32) =>
    k_76 x1 x2 x3 x4 x5 y_87 v_rowsOf v_columnsOf v_textMany v_base v_at v_ends v_fault v_opened v_bentMany v_bentWrong v_moreWorn v_wishedField v_isFound v_bestWrong v_bestWorn v_bestMany v_limit v_shapeRows v_shapeColumns v_row v_column v_below v_face v_worn v_lastBend v_tape v_text v_names v_bends v_high v_to v_pileSize v_way1 v_bestWay) := rfl

theorem uf_X9_goesDeeper_76 (N : Nat) (go : Int32 → Int32 → Int32 → Int32 → Int32 → Int32 → Int32 → Int32 → Int32 → Int32 → Int32 → Int32 → Int32 → Int32 → Int32 → Bool → Int32 → Int32 → Int32 → List Int32 → List Int32 → List Int32 → List Int32 → List Int32 → List Int32 → List Int32 → List Int32 → List Int32 → List Int32 → List Int32 → List Int32 → List Int32 → List Int32 → List Int32 → List Int32 → List Int32 → List Int32 → Option (Int32 × Int32 × Int32 × Int32 × Int32 × Int32 × Int32 × Int32 × Bool × Int32 × Int32 × Int32 × List Int32 × List Int32 × List Int32 × List Int32 × List Int32 × List Int32 × List Int32 × List Int32 × List Int32 × List Int32 × List Int32 × List Int32 × List Int32 × List Int32 × List Int32)) (k_66 : Int32 → Int32 → Int32 → Int32 → Int32 → Int32 → Int32 → Int32 → Int32 → Int32 → Int32 → Int32 → Int32 → Int32 → Int32 → Int32 → Int32 → Bool → Int32 → Int32 → Int32 → List Int32 → List Int32 → List Int32 → List Int32 → List Int32 → List Int32 → List Int32 → List Int32 → List Int32 → List Int32 → List Int32 → List Int32 → List Int32 → List Int32 → List Int32 → List Int32 → List Int32 → List Int32 → Option (Int32 × Int32 × Int32 × Int32 × Int32 × Int32 × Int32 × Int32 × Bool × Int32 × Int32 × Int32 × List Int32 × List Int32 × List Int32 × List Int32 × List Int32 × List Int32 × List Int32 × List Int32 × List Int32 × List Int32 × List Int32 × List Int32 × List Int32 × List Int32 × List Int32)) (n : Nat) (x1 : Int32) (x2 : Int32) (x3 : Int32) (x4 : Int32) (x5 : Int32) (x6 : Int32) (v_rowsOf : Int32) (v_columnsOf : Int32) (v_textMany : Int32) (v_base : Int32) (v_at : Int32) (v_ends : Int32) (v_fault : Int32) (v_opened : Int32) (v_bentMany : Int32) (v_bentWrong : Int32) (v_moreWorn : Int32) (v_wishedField : Int32) (v_isFound : Bool) (v_bestWrong : Int32) (v_bestWorn : Int32) (v_bestMany : Int32) (v_limit : List Int32) (v_shapeRows : List Int32) (v_shapeColumns : List Int32) (v_row : List Int32) (v_column : List Int32) (v_below : List Int32) (v_face : List Int32) (v_worn : List Int32) (v_lastBend : List Int32) (v_tape : List Int32) (v_text : List Int32) (v_names : List Int32) (v_bends : List Int32) (v_high : List Int32) (v_to : List Int32) (v_pileSize : List Int32) (v_way1 : List Int32) (v_bestWay : List Int32) : fX9_goesDeeper_76 N go k_66 (n + 1) x1 x2 x3 x4 x5 x6 v_rowsOf v_columnsOf v_textMany v_base v_at v_ends v_fault v_opened v_bentMany v_bentWrong v_moreWorn v_wishedField v_isFound v_bestWrong v_bestWorn v_bestMany v_limit v_shapeRows v_shapeColumns v_row v_column v_below v_face v_worn v_lastBend v_tape v_text v_names v_bends v_high v_to v_pileSize v_way1 v_bestWay = 
    if (8 : Int32) ≤ x6 then
    (mm_nm (x5 + (1 : Int32)) (fun (y_21 : Int32) =>
    k_66 x1 x2 x3 x4 y_21 v_rowsOf v_columnsOf v_textMany v_base v_at v_ends v_fault v_opened v_bentMany v_bentWrong v_moreWorn v_wishedField v_isFound v_bestWrong v_bestWorn v_bestMany v_limit v_shapeRows v_shapeColumns v_row v_column v_below v_face v_worn v_lastBend v_tape v_text v_names v_bends v_high v_to v_pileSize v_way1 v_bestWay))
    else (mm_bd1 (fX9_isLine N x4 x5 x6 v_shapeRows v_shapeColumns) (fun (r_22 : Bool) =>
    if r_22 = false then
    (fX9_goesDeeper_154 N go k_66 (fX9_goesDeeper_76 N go k_66 n) x1 x2 x3 x4 x5 x6 v_rowsOf v_columnsOf v_textMany v_base v_at v_ends v_fault v_opened v_bentMany v_bentWrong v_moreWorn v_wishedField v_isFound v_bestWrong v_bestWorn v_bestMany v_limit v_shapeRows v_shapeColumns v_row v_column v_below v_face v_worn v_lastBend v_tape v_text v_names v_bends v_high v_to v_pileSize v_way1 v_bestWay)
    else (mm_bd8 (fX9_copies N x4 (x4 + (1 : Int32)) v_shapeRows v_shapeColumns v_row v_column v_below v_face v_worn v_lastBend) (fun (w_25 : List Int32) (w_26 : List Int32) (w_27 : List Int32) (w_28 : List Int32) (w_29 : List Int32) (w_30 : List Int32) (w_31 : List Int32) (w_32 : List Int32) =>
    mm_bd21 (fX9_foldsOn N (x4 + (1 : Int32)) x5 x6 v_rowsOf v_columnsOf v_textMany v_base v_at v_ends v_fault v_opened v_bentMany v_bentWrong v_moreWorn v_limit w_25 w_26 w_27 w_28 w_29 w_30 w_31 w_32 v_tape v_text v_names v_bends v_high v_to v_pileSize) (fun (w_34 : Int32) (w_35 : Int32) (w_36 : Int32) (w_37 : Int32) (w_38 : Int32) (w_39 : Int32) (w_40 : Int32) (w_41 : Int32) (w_42 : List Int32) (w_43 : List Int32) (w_44 : List Int32) (w_45 : List Int32) (w_46 : List Int32) (w_47 : List Int32) (w_48 : List Int32) (w_49 : List Int32) (w_50 : List Int32) (w_51 : List Int32) (w_52 : List Int32) (w_53 : List Int32) (w_54 : List Int32) =>
    mm_nm ((((10 : Int32) * x5) + x6)) (fun (y_56 : Int32) =>
    mm_ck (mm_inb x1 v_way1.length) (mm_nm (mm_is v_way1 x1 y_56) (fun (l_58 : List Int32) =>
    mm_bd27 (go (x1 + (1 : Int32)) (x2 + w_40) (x3 + w_41) v_rowsOf v_columnsOf v_textMany w_34 w_35 w_36 w_37 w_38 w_39 w_40 w_41 v_wishedField v_isFound v_bestWrong v_bestWorn v_bestMany v_limit w_42 w_43 w_44 w_45 w_46 w_47 w_48 w_49 v_tape v_text w_50 w_51 w_52 w_53 w_54 l_58 v_bestWay) (fun (w_59 : Int32) (w_60 : Int32) (w_61 : Int32) (w_62 : Int32) (w_63 : Int32) (w_64 : Int32) (w_65 : Int32) (w_66 : Int32) (w_67 : Bool) (w_68 : Int32) (w_69 : Int32) (w_70 : Int32) (w_71 : List Int32) (w_72 : List Int32) (w_73 : List Int32) (w_74 : List Int32) (w_75 : List Int32) (w_76 : List Int32) (w_77 : List Int32) (w_78 : List Int32) (w_79 : List Int32) (w_80 : List Int32) (w_81 : List Int32) (w_82 : List Int32) (w_83 : List Int32) (w_84 : List Int32) (w_85 : List Int32) =>
    fX9_goesDeeper_154 N go k_66 (fX9_goesDeeper_76 N go k_66 n) x1 x2 x3 x4 x5 x6 v_rowsOf v_columnsOf v_textMany w_59 w_60 w_61 w_62 w_63 w_64 w_65 w_66 v_wishedField w_67 w_68 w_69 w_70 v_limit w_71 w_72 w_73 w_74 w_75 w_76 w_77 w_78 v_tape v_text w_79 w_80 w_81 w_82 w_83 w_84 w_85))))))))) := rfl

set_option maxHeartbeats 4000000 in
set_option maxRecDepth 20000 in
theorem sf_X9_goesDeeper_76 {N : Nat} (hN : 700 ≤ N) {K : Int} {B : Nat} {u_row : List Int32} {u_col : List Int32} {u_sR : List Int32} {u_sC : List Int32} {A : Int} {B9 : Int} {a9 : Int} {b9 : Int} {go : Int32 → Int32 → Int32 → Int32 → Int32 → Int32 → Int32 → Int32 → Int32 → Int32 → Int32 → Int32 → Int32 → Int32 → Int32 → Bool → Int32 → Int32 → Int32 → List Int32 → List Int32 → List Int32 → List Int32 → List Int32 → List Int32 → List Int32 → List Int32 → List Int32 → List Int32 → List Int32 → List Int32 → List Int32 → List Int32 → List Int32 → List Int32 → List Int32 → List Int32 → Option (Int32 × Int32 × Int32 × Int32 × Int32 × Int32 × Int32 × Int32 × Bool × Int32 × Int32 × Int32 × List Int32 × List Int32 × List Int32 × List Int32 × List Int32 × List Int32 × List Int32 × List Int32 × List Int32 × List Int32 × List Int32 × List Int32 × List Int32 × List Int32 × List Int32)} {k_66 : Int32 → Int32 → Int32 → Int32 → Int32 → Int32 → Int32 → Int32 → Int32 → Int32 → Int32 → Int32 → Int32 → Int32 → Int32 → Int32 → Int32 → Bool → Int32 → Int32 → Int32 → List Int32 → List Int32 → List Int32 → List Int32 → List Int32 → List Int32 → List Int32 → List Int32 → List Int32 → List Int32 → List Int32 → List Int32 → List Int32 → List Int32 → List Int32 → List Int32 → List Int32 → List Int32 → Option (Int32 × Int32 × Int32 × Int32 × Int32 × Int32 × Int32 × Int32 × Bool × Int32 × Int32 × Int32 × List Int32 × List Int32 × List Int32 × List Int32 × List Int32 × List Int32 × List Int32 × List Int32 × List Int32 × List Int32 × List Int32 × List Int32 × List Int32 × List Int32 × List Int32)} (hgo : ∀ (u_row : List Int32) (u_col : List Int32) (u_sR : List Int32) (u_sC : List Int32) (A : Int) (B9 : Int) (a9 : Int) (b9 : Int) (x1 : Int32) (x2 : Int32) (x3 : Int32) (v_rowsOf : Int32) (v_columnsOf : Int32) (v_textMany : Int32) (v_base : Int32) (v_at : Int32) (v_ends : Int32) (v_fault : Int32) (v_opened : Int32) (v_bentMany : Int32) (v_bentWrong : Int32) (v_moreWorn : Int32) (v_wishedField : Int32) (v_isFound : Bool) (v_bestWrong : Int32) (v_bestWorn : Int32) (v_bestMany : Int32) (v_limit : List Int32) (v_shapeRows : List Int32) (v_shapeColumns : List Int32) (v_row : List Int32) (v_column : List Int32) (v_below : List Int32) (v_face : List Int32) (v_worn : List Int32) (v_lastBend : List Int32) (v_tape : List Int32) (v_text : List Int32) (v_names : List Int32) (v_bends : List Int32) (v_high : List Int32) (v_to : List Int32) (v_pileSize : List Int32) (v_way1 : List Int32) (v_bestWay : List Int32), 1 ≤ v_rowsOf.toInt → v_rowsOf.toInt ≤ 4 → 1 ≤ v_columnsOf.toInt → v_columnsOf.toInt ≤ 8 → -1 ≤ v_textMany.toInt → v_textMany.toInt ≤ 120 → 0 ≤ v_bestMany.toInt → v_bestMany.toInt ≤ 3 → v_limit.length = 1 → v_shapeRows.length = 6 → v_shapeColumns.length = 6 → v_row.length = 192 → v_column.length = 192 → v_below.length = 192 → v_face.length = 192 → v_worn.length = 384 → v_lastBend.length = 384 → v_tape.length = 120 → v_text.length = 120 → v_names.length = 6 → v_bends.length = 64 → v_high.length = 32 → v_to.length = 32 → v_pileSize.length = 64 → v_way1.length = 3 → v_bestWay.length = 3 → 0 ≤ x1.toInt → x1.toInt ≤ 3 → fr u_row v_row A B9 → fr u_col v_column A B9 → fr u_sR v_shapeRows a9 b9 → fr u_sC v_shapeColumns a9 b9 → A ≤ 32 * x1.toInt + 64 → 160 ≤ B9 → a9 ≤ x1.toInt + 2 → 5 ≤ b9 → lvI v_rowsOf v_columnsOf v_shapeRows v_shapeColumns v_row v_column (x1.toInt + 1) → K ≤ x1.toInt → wp (go x1 x2 x3 v_rowsOf v_columnsOf v_textMany v_base v_at v_ends v_fault v_opened v_bentMany v_bentWrong v_moreWorn v_wishedField v_isFound v_bestWrong v_bestWorn v_bestMany v_limit v_shapeRows v_shapeColumns v_row v_column v_below v_face v_worn v_lastBend v_tape v_text v_names v_bends v_high v_to v_pileSize v_way1 v_bestWay) (cu27 (fun (wv_base : Int32) (wv_at : Int32) (wv_ends : Int32) (wv_fault : Int32) (wv_opened : Int32) (wv_bentMany : Int32) (wv_bentWrong : Int32) (wv_moreWorn : Int32) (wv_isFound : Bool) (wv_bestWrong : Int32) (wv_bestWorn : Int32) (wv_bestMany : Int32) (wv_shapeRows : List Int32) (wv_shapeColumns : List Int32) (wv_row : List Int32) (wv_column : List Int32) (wv_below : List Int32) (wv_face : List Int32) (wv_worn : List Int32) (wv_lastBend : List Int32) (wv_names : List Int32) (wv_bends : List Int32) (wv_high : List Int32) (wv_to : List Int32) (wv_pileSize : List Int32) (wv_way1 : List Int32) (wv_bestWay : List Int32) => 0 ≤ wv_bestMany.toInt ∧ wv_bestMany.toInt ≤ 3 ∧ wv_shapeRows.length = 6 ∧ wv_shapeColumns.length = 6 ∧ wv_row.length = 192 ∧ wv_column.length = 192 ∧ wv_below.length = 192 ∧ wv_face.length = 192 ∧ wv_worn.length = 384 ∧ wv_lastBend.length = 384 ∧ wv_names.length = 6 ∧ wv_bends.length = 64 ∧ wv_high.length = 32 ∧ wv_to.length = 32 ∧ wv_pileSize.length = 64 ∧ wv_way1.length = 3 ∧ wv_bestWay.length = 3 ∧ fr u_row wv_row A B9 ∧ fr u_col wv_column A B9 ∧ fr u_sR wv_shapeRows a9 b9 ∧ fr u_sC wv_shapeColumns a9 b9))) (hk_66 : ∀ (x1 : Int32) (x2 : Int32) (x3 : Int32) (x4 : Int32) (x5 : Int32) (v_rowsOf : Int32) (v_columnsOf : Int32) (v_textMany : Int32) (v_base : Int32) (v_at : Int32) (v_ends : Int32) (v_fault : Int32) (v_opened : Int32) (v_bentMany : Int32) (v_bentWrong : Int32) (v_moreWorn : Int32) (v_wishedField : Int32) (v_isFound : Bool) (v_bestWrong : Int32) (v_bestWorn : Int32) (v_bestMany : Int32) (v_limit : List Int32) (v_shapeRows : List Int32) (v_shapeColumns : List Int32) (v_row : List Int32) (v_column : List Int32) (v_below : List Int32) (v_face : List Int32) (v_worn : List Int32) (v_lastBend : List Int32) (v_tape : List Int32) (v_text : List Int32) (v_names : List Int32) (v_bends : List Int32) (v_high : List Int32) (v_to : List Int32) (v_pileSize : List Int32) (v_way1 : List Int32) (v_bestWay : List Int32), 1 ≤ v_rowsOf.toInt → v_rowsOf.toInt ≤ 4 → 1 ≤ v_columnsOf.toInt → v_columnsOf.toInt ≤ 8 → -1 ≤ v_textMany.toInt → v_textMany.toInt ≤ 120 → 0 ≤ v_bestMany.toInt → v_bestMany.toInt ≤ 3 → v_limit.length = 1 → v_shapeRows.length = 6 → v_shapeColumns.length = 6 → v_row.length = 192 → v_column.length = 192 → v_below.length = 192 → v_face.length = 192 → v_worn.length = 384 → v_lastBend.length = 384 → v_tape.length = 120 → v_text.length = 120 → v_names.length = 6 → v_bends.length = 64 → v_high.length = 32 → v_to.length = 32 → v_pileSize.length = 64 → v_way1.length = 3 → v_bestWay.length = 3 → 0 ≤ x1.toInt → x1.toInt ≤ 2 → x4.toInt = x1.toInt + 1 → K ≤ x1.toInt + 1 → fr u_row v_row A B9 → fr u_col v_column A B9 → fr u_sR v_shapeRows a9 b9 → fr u_sC v_shapeColumns a9 b9 → A ≤ 32 * x1.toInt + 64 → 160 ≤ B9 → a9 ≤ x1.toInt + 2 → 5 ≤ b9 → lv9 v_rowsOf v_columnsOf v_shapeRows v_shapeColumns v_row v_column x4 → 1 ≤ x5.toInt → x5.toInt ≤ 8 → (9 - x5.toInt).toNat < B → wp (k_66 x1 x2 x3 x4 x5 v_rowsOf v_columnsOf v_textMany v_base v_at v_ends v_fault v_opened v_bentMany v_bentWrong v_moreWorn v_wishedField v_isFound v_bestWrong v_bestWorn v_bestMany v_limit v_shapeRows v_shapeColumns v_row v_column v_below v_face v_worn v_lastBend v_tape v_text v_names v_bends v_high v_to v_pileSize v_way1 v_bestWay) (cu27 (fun (wv_base : Int32) (wv_at : Int32) (wv_ends : Int32) (wv_fault : Int32) (wv_opened : Int32) (wv_bentMany : Int32) (wv_bentWrong : Int32) (wv_moreWorn : Int32) (wv_isFound : Bool) (wv_bestWrong : Int32) (wv_bestWorn : Int32) (wv_bestMany : Int32) (wv_shapeRows : List Int32) (wv_shapeColumns : List Int32) (wv_row : List Int32) (wv_column : List Int32) (wv_below : List Int32) (wv_face : List Int32) (wv_worn : List Int32) (wv_lastBend : List Int32) (wv_names : List Int32) (wv_bends : List Int32) (wv_high : List Int32) (wv_to : List Int32) (wv_pileSize : List Int32) (wv_way1 : List Int32) (wv_bestWay : List Int32) => 0 ≤ wv_bestMany.toInt ∧ wv_bestMany.toInt ≤ 3 ∧ wv_shapeRows.length = 6 ∧ wv_shapeColumns.length = 6 ∧ wv_row.length = 192 ∧ wv_column.length = 192 ∧ wv_below.length = 192 ∧ wv_face.length = 192 ∧ wv_worn.length = 384 ∧ wv_lastBend.length = 384 ∧ wv_names.length = 6 ∧ wv_bends.length = 64 ∧ wv_high.length = 32 ∧ wv_to.length = 32 ∧ wv_pileSize.length = 64 ∧ wv_way1.length = 3 ∧ wv_bestWay.length = 3 ∧ fr u_row wv_row A B9 ∧ fr u_col wv_column A B9 ∧ fr u_sR wv_shapeRows a9 b9 ∧ fr u_sC wv_shapeColumns a9 b9))) : ∀ (n : Nat) (x1 : Int32) (x2 : Int32) (x3 : Int32) (x4 : Int32) (x5 : Int32) (x6 : Int32) (v_rowsOf : Int32) (v_columnsOf : Int32) (v_textMany : Int32) (v_base : Int32) (v_at : Int32) (v_ends : Int32) (v_fault : Int32) (v_opened : Int32) (v_bentMany : Int32) (v_bentWrong : Int32) (v_moreWorn : Int32) (v_wishedField : Int32) (v_isFound : Bool) (v_bestWrong : Int32) (v_bestWorn : Int32) (v_bestMany : Int32) (v_limit : List Int32) (v_shapeRows : List Int32) (v_shapeColumns : List Int32) (v_row : List Int32) (v_column : List Int32) (v_below : List Int32) (v_face : List Int32) (v_worn : List Int32) (v_lastBend : List Int32) (v_tape : List Int32) (v_text : List Int32) (v_names : List Int32) (v_bends : List Int32) (v_high : List Int32) (v_to : List Int32) (v_pileSize : List Int32) (v_way1 : List Int32) (v_bestWay : List Int32), 1 ≤ v_rowsOf.toInt → v_rowsOf.toInt ≤ 4 → 1 ≤ v_columnsOf.toInt → v_columnsOf.toInt ≤ 8 → -1 ≤ v_textMany.toInt → v_textMany.toInt ≤ 120 → 0 ≤ v_bestMany.toInt → v_bestMany.toInt ≤ 3 → v_limit.length = 1 → v_shapeRows.length = 6 → v_shapeColumns.length = 6 → v_row.length = 192 → v_column.length = 192 → v_below.length = 192 → v_face.length = 192 → v_worn.length = 384 → v_lastBend.length = 384 → v_tape.length = 120 → v_text.length = 120 → v_names.length = 6 → v_bends.length = 64 → v_high.length = 32 → v_to.length = 32 → v_pileSize.length = 64 → v_way1.length = 3 → v_bestWay.length = 3 → 0 ≤ x1.toInt → x1.toInt ≤ 2 → x4.toInt = x1.toInt + 1 → K ≤ x1.toInt + 1 → fr u_row v_row A B9 → fr u_col v_column A B9 → fr u_sR v_shapeRows a9 b9 → fr u_sC v_shapeColumns a9 b9 → A ≤ 32 * x1.toInt + 64 → 160 ≤ B9 → a9 ≤ x1.toInt + 2 → 5 ≤ b9 → lv9 v_rowsOf v_columnsOf v_shapeRows v_shapeColumns v_row v_column x4 → 1 ≤ x5.toInt → x5.toInt ≤ 7 → 0 ≤ x6.toInt → x6.toInt ≤ 8 → (9 - x5.toInt).toNat < B + 1 → (9 - x6.toInt).toNat < n → wp (fX9_goesDeeper_76 N go k_66 n x1 x2 x3 x4 x5 x6 v_rowsOf v_columnsOf v_textMany v_base v_at v_ends v_fault v_opened v_bentMany v_bentWrong v_moreWorn v_wishedField v_isFound v_bestWrong v_bestWorn v_bestMany v_limit v_shapeRows v_shapeColumns v_row v_column v_below v_face v_worn v_lastBend v_tape v_text v_names v_bends v_high v_to v_pileSize v_way1 v_bestWay) (cu27 (fun (wv_base : Int32) (wv_at : Int32) (wv_ends : Int32) (wv_fault : Int32) (wv_opened : Int32) (wv_bentMany : Int32) (wv_bentWrong : Int32) (wv_moreWorn : Int32) (wv_isFound : Bool) (wv_bestWrong : Int32) (wv_bestWorn : Int32) (wv_bestMany : Int32) (wv_shapeRows : List Int32) (wv_shapeColumns : List Int32) (wv_row : List Int32) (wv_column : List Int32) (wv_below : List Int32) (wv_face : List Int32) (wv_worn : List Int32) (wv_lastBend : List Int32) (wv_names : List Int32) (wv_bends : List Int32) (wv_high : List Int32) (wv_to : List Int32) (wv_pileSize : List Int32) (wv_way1 : List Int32) (wv_bestWay : List Int32) => 0 ≤ wv_bestMany.toInt ∧ wv_bestMany.toInt ≤ 3 ∧ wv_shapeRows.length = 6 ∧ wv_shapeColumns.length = 6 ∧ wv_row.length = 192 ∧ wv_column.length = 192 ∧ wv_below.length = 192 ∧ wv_face.length = 192 ∧ wv_worn.length = 384 ∧ wv_lastBend.length = 384 ∧ wv_names.length = 6 ∧ wv_bends.length = 64 ∧ wv_high.length = 32 ∧ wv_to.length = 32 ∧ wv_pileSize.length = 64 ∧ wv_way1.length = 3 ∧ wv_bestWay.length = 3 ∧ fr u_row wv_row A B9 ∧ fr u_col wv_column A B9 ∧ fr u_sR wv_shapeRows a9 b9 ∧ fr u_sC wv_shapeColumns a9 b9)) := by
  intro n
  induction n with
  | zero =>
    intro x1 x2 x3 x4 x5 x6 v_rowsOf v_columnsOf v_textMany v_base v_at v_ends v_fault v_opened v_bentMany v_bentWrong v_moreWorn v_wishedField v_isFound v_bestWrong v_bestWorn v_bestMany v_limit v_shapeRows v_shapeColumns v_row v_column v_below v_face v_worn v_lastBend v_tape v_text v_names v_bends v_high v_to v_pileSize v_way1 v_bestWay h_0 h_1 h_2 h_3 h_4 h_5 h_6 h_7 h_8 h_9 h_10 h_11 h_12 h_13 h_14 h_15 h_16 h_17 h_18 h_19 h_20 h_21 h_22 h_23 h_24 h_25 h_26 h_27 h_28 h_29 h_30 h_31 h_32 h_33 h_34 h_35 h_36 h_37 h_38 h_39 h_40 h_41 h_42 h_43 hm
    exact absurd hm (by omega)
  | succ n ih =>
    intro x1 x2 x3 x4 x5 x6 v_rowsOf v_columnsOf v_textMany v_base v_at v_ends v_fault v_opened v_bentMany v_bentWrong v_moreWorn v_wishedField v_isFound v_bestWrong v_bestWorn v_bestMany v_limit v_shapeRows v_shapeColumns v_row v_column v_below v_face v_worn v_lastBend v_tape v_text v_names v_bends v_high v_to v_pileSize v_way1 v_bestWay h_0 h_1 h_2 h_3 h_4 h_5 h_6 h_7 h_8 h_9 h_10 h_11 h_12 h_13 h_14 h_15 h_16 h_17 h_18 h_19 h_20 h_21 h_22 h_23 h_24 h_25 h_26 h_27 h_28 h_29 h_30 h_31 h_32 h_33 h_34 h_35 h_36 h_37 h_38 h_39 h_40 h_41 h_42 h_43 hm
    have m3 := (i_fl (a := v_rowsOf) (b := v_columnsOf) (by omega) (by omega) (by omega) (by omega)).2
    obtain ⟨l1, l2, l3, l4, l5, l6⟩ := id (show lv9 v_rowsOf v_columnsOf v_shapeRows v_shapeColumns v_row v_column x4 by assumption)
    refine wp_of (uf_X9_goesDeeper_76 _ _ _ _ _ _ _ _ _ _ _ _ _ _ _ _ _ _ _ _ _ _ _ _ _ _ _ _ _ _ _ _ _ _ _ _ _ _ _ _ _ _ _ _) ?_
    have n_2 : (8 : Int32).toInt = 8 := by decide
    refine wp_if (fun c_1 => ?_) (fun c_1 => ?_)
    ·
      have dc_1 := i_le c_1
      have n_3 : (1 : Int32).toInt = 1 := by decide
      refine wp_nm (fun y_21 h_y_21 => ?_)
      have e_4 := i_addE h_y_21.symm (by omega) (by omega)
      exact hk_66 _ _ _ _ _ _ _ _ _ _ _ _ _ _ _ _ _ _ _ _ _ _ _ _ _ _ _ _ _ _ _ _ _ _ _ _ _ _ _ h_0 h_1 h_2 h_3 h_4 h_5 h_6 h_7 h_8 h_9 h_10 h_11 h_12 h_13 h_14 h_15 h_16 h_17 h_18 h_19 h_20 h_21 h_22 h_23 h_24 h_25 h_26 h_27 h_28 h_29 h_30 h_31 h_32 h_33 h_34 h_35 h_36 h_37 h_38 (by omega) (by omega) (by omega)
    ·
      have dc_1 := i_nle c_1
      refine wp_bd1 (sf_X9_isLine hN h_9 h_10 (by omega) (by omega) (by omega) (by omega) (by omega) (by omega)) (fun r_22 q_5 => ?_)
      rcases q_5 with ⟨rfl, q_5⟩ | ⟨rfl, q_5⟩
      ·
        refine wp_ifn (by decide) ?_
        have n_6 : (1 : Int32).toInt = 1 := by decide
        generalize hz_z : (x4 + (1 : Int32)) = z
        have e_7 := i_addE hz_z (by omega) (by omega)
        refine wp_bd8 (sf_X9_copies (u_row := v_row) (u_col := v_column) (u_sR := v_shapeRows) (u_sC := v_shapeColumns) (A := 32 * x4.toInt + 32) (B9 := 32 * x4.toInt + 64) (a9 := x4.toInt + 1) (b9 := x4.toInt + 2) (R9 := v_rowsOf) (C9 := v_columnsOf) hN h_9 h_10 h_11 h_12 h_13 h_14 h_15 h_16 (by omega) (by omega) (by omega) (by omega) (by omega) (by omega) (by omega) (by first | assumption | exact fr_refl _ _ _) (by first | assumption | exact fr_refl _ _ _) (by first | assumption | exact fr_refl _ _ _) (by first | assumption | exact fr_refl _ _ _) (by omega) (by omega) (by omega) (by omega) (by first | assumption | exact (show lvI _ _ _ _ _ _ _ by assumption) _ (by omega) | exact lv9_fr (by assumption) (by assumption) (by assumption) (by assumption) (by assumption) (by omega) (by omega) (by omega) (by omega) (by omega) | exact ⟨by omega, by omega, by omega, by omega, (by first | assumption | exact zn_nil (by omega) | (exfalso; omega)), (by first | assumption | exact zn_nil (by omega) | (exfalso; omega))⟩)) (fun w_25 w_26 w_27 w_28 w_29 w_30 w_31 w_32 ⟨q_8, q_9, q_10, q_11, q_12, q_13, q_14, q_15, q_16, q_17, q_18, q_19, q_20, q_21, q_22⟩ => ?_)
        have fu_23 : fr u_row w_27 A B9 := fr_tr h_30 q_16 (by omega) (by omega)
        have fu_24 : fr u_col w_28 A B9 := fr_tr h_31 q_17 (by omega) (by omega)
        have fu_25 : fr u_sR w_25 a9 b9 := fr_tr h_32 q_18 (by omega) (by omega)
        have fu_26 : fr u_sC w_26 a9 b9 := fr_tr h_33 q_19 (by omega) (by omega)
        first | have lq_27 : lv9 v_rowsOf v_columnsOf w_25 w_26 w_27 w_28 x4 := lv9_fr h_38 q_18 q_19 q_16 q_17 (by omega) (by omega) (by omega) (by omega) (by omega) | skip
        refine wp_bd21 (sf_X9_foldsOn (u_row := w_27) (u_col := w_28) (u_sR := w_25) (u_sC := w_26) (A := 32 * x4.toInt + 32) (B9 := 32 * x4.toInt + 64) (a9 := x4.toInt + 1) (b9 := x4.toInt + 2) hN h_0 h_1 h_2 h_3 h_4 h_5 h_8 q_8 q_9 q_10 q_11 q_12 q_13 q_14 q_15 h_17 h_18 h_19 h_20 h_21 h_22 h_23 (by omega) (by omega) (by first | assumption | exact fr_refl _ _ _) (by first | assumption | exact fr_refl _ _ _) (by first | assumption | exact fr_refl _ _ _) (by first | assumption | exact fr_refl _ _ _) (by omega) (by omega) (by omega) (by omega) h_39 (by omega) (by omega) (by first | assumption | exact (show lvI _ _ _ _ _ _ _ by assumption) _ (by omega) | exact lv9_fr (by assumption) (by assumption) (by assumption) (by assumption) (by assumption) (by omega) (by omega) (by omega) (by omega) (by omega) | exact ⟨by omega, by omega, by omega, by omega, (by first | assumption | exact zn_nil (by omega) | (exfalso; omega)), (by first | assumption | exact zn_nil (by omega) | (exfalso; omega))⟩)) (fun w_34 w_35 w_36 w_37 w_38 w_39 w_40 w_41 w_42 w_43 w_44 w_45 w_46 w_47 w_48 w_49 w_50 w_51 w_52 w_53 w_54 ⟨q_28, q_29, q_30, q_31, q_32, q_33, q_34, q_35, q_36, q_37, q_38, q_39, q_40, q_41, q_42, q_43, q_44, q_45⟩ => ?_)
        have fu_46 : fr u_row w_44 A B9 := fr_tr fu_23 q_41 (by omega) (by omega)
        have fu_47 : fr u_col w_45 A B9 := fr_tr fu_24 q_42 (by omega) (by omega)
        have fu_48 : fr u_sR w_42 a9 b9 := fr_tr fu_25 q_43 (by omega) (by omega)
        have fu_49 : fr u_sC w_43 a9 b9 := fr_tr fu_26 q_44 (by omega) (by omega)
        first | have lq_50 : lv9 v_rowsOf v_columnsOf w_42 w_43 w_44 w_45 x4 := lv9_fr lq_27 q_43 q_44 q_41 q_42 (by omega) (by omega) (by omega) (by omega) (by omega) | skip
        have n_51 : (10 : Int32).toInt = 10 := by decide
        generalize hz_z__52 : ((10 : Int32) * x5) = z__52
        have e_53 := i_mulLE (c := 10) (by decide) hz_z__52 (by omega) (by omega)
        refine wp_nm (fun y_56 h_y_56 => ?_)
        have e_54 := i_addE h_y_56.symm (by omega) (by omega)
        refine wp_ck (i_inb (by omega) (by omega)) ?_
        refine wp_nm (fun l_58 h_l_58 => ?_)
        have nl_l_58 : l_58.length = 3 := by rw [h_l_58, is_len]; assumption
        generalize hz_z__55 : (x1 + (1 : Int32)) = z__55
        have e_56 := i_addE hz_z__55 (by omega) (by omega)
        refine wp_bd27 (hgo (w_44) (w_45) (w_42) (w_43) (32 * x4.toInt + 64) (160) (x4.toInt + 2) (5) _ _ _ _ _ _ _ _ _ _ _ _ _ _ _ _ _ _ _ _ _ _ _ _ _ _ _ _ _ _ _ _ _ _ _ _ _ h_0 h_1 h_2 h_3 h_4 h_5 h_6 h_7 h_8 q_28 q_29 q_30 q_31 q_32 q_33 q_34 q_35 h_17 h_18 q_36 q_37 q_38 q_39 q_40 nl_l_58 h_25 (by omega) (by omega) (by first | assumption | exact fr_refl _ _ _) (by first | assumption | exact fr_refl _ _ _) (by first | assumption | exact fr_refl _ _ _) (by first | assumption | exact fr_refl _ _ _) (by omega) (by first | assumption | omega | decide) (by omega) (by first | assumption | omega | decide) (by first | assumption | exact lvI_of q_45 (by omega) | exact lvI_of lq_50 (by omega)) (by omega)) (fun w_59 w_60 w_61 w_62 w_63 w_64 w_65 w_66 w_67 w_68 w_69 w_70 w_71 w_72 w_73 w_74 w_75 w_76 w_77 w_78 w_79 w_80 w_81 w_82 w_83 w_84 w_85 ⟨q_57, q_58, q_59, q_60, q_61, q_62, q_63, q_64, q_65, q_66, q_67, q_68, q_69, q_70, q_71, q_72, q_73, q_74, q_75, q_76, q_77⟩ => ?_)
        have fu_78 : fr u_row w_73 A B9 := fr_tr fu_46 q_74 (by omega) (by omega)
        have fu_79 : fr u_col w_74 A B9 := fr_tr fu_47 q_75 (by omega) (by omega)
        have fu_80 : fr u_sR w_71 a9 b9 := fr_tr fu_48 q_76 (by omega) (by omega)
        have fu_81 : fr u_sC w_72 a9 b9 := fr_tr fu_49 q_77 (by omega) (by omega)
        first | have lq_82 : lv9 v_rowsOf v_columnsOf w_71 w_72 w_73 w_74 z := lv9_fr q_45 q_76 q_77 q_74 q_75 (by omega) (by omega) (by omega) (by omega) (by omega) | skip
        first | have lq_83 : lv9 v_rowsOf v_columnsOf w_71 w_72 w_73 w_74 x4 := lv9_fr lq_50 q_76 q_77 q_74 q_75 (by omega) (by omega) (by omega) (by omega) (by omega) | skip
        refine wp_of (uf_X9_goesDeeper_154 _ _ _ _ _ _ _ _ _ _ _ _ _ _ _ _ _ _ _ _ _ _ _ _ _ _ _ _ _ _ _ _ _ _ _ _ _ _ _ _ _ _ _ _) ?_
        refine wp_nm (fun y_87 h_y_87 => ?_)
        have e_84 := i_addE h_y_87.symm (by omega) (by omega)
        exact ih _ _ _ _ _ _ _ _ _ _ _ _ _ _ _ _ _ _ _ _ _ _ _ _ _ _ _ _ _ _ _ _ _ _ _ _ _ _ _ _ h_0 h_1 h_2 h_3 h_4 h_5 q_57 q_58 h_8 q_59 q_60 q_61 q_62 q_63 q_64 q_65 q_66 h_17 h_18 q_67 q_68 q_69 q_70 q_71 q_72 q_73 h_26 h_27 h_28 h_29 fu_78 fu_79 fu_80 fu_81 h_34 h_35 h_36 h_37 lq_83 h_39 h_40 (by omega) (by omega) h_43 (by omega)
      ·
        refine wp_ifp (by decide) ?_
        refine wp_of (uf_X9_goesDeeper_154 _ _ _ _ _ _ _ _ _ _ _ _ _ _ _ _ _ _ _ _ _ _ _ _ _ _ _ _ _ _ _ _ _ _ _ _ _ _ _ _ _ _ _ _) ?_
        have n_86 : (1 : Int32).toInt = 1 := by decide
        refine wp_nm (fun y_87__85 h_y_87__85 => ?_)
        have e_87 := i_addE h_y_87__85.symm (by omega) (by omega)
        exact ih _ _ _ _ _ _ _ _ _ _ _ _ _ _ _ _ _ _ _ _ _ _ _ _ _ _ _ _ _ _ _ _ _ _ _ _ _ _ _ _ h_0 h_1 h_2 h_3 h_4 h_5 h_6 h_7 h_8 h_9 h_10 h_11 h_12 h_13 h_14 h_15 h_16 h_17 h_18 h_19 h_20 h_21 h_22 h_23 h_24 h_25 h_26 h_27 h_28 h_29 h_30 h_31 h_32 h_33 h_34 h_35 h_36 h_37 h_38 h_39 h_40 (by omega) (by omega) h_43 (by omega)

theorem uf_X9_goesDeeper_66 (N : Nat) (go : Int32 → Int32 → Int32 → Int32 → Int32 → Int32 → Int32 → Int32 → Int32 → Int32 → Int32 → Int32 → Int32 → Int32 → Int32 → Bool → Int32 → Int32 → Int32 → List Int32 → List Int32 → List Int32 → List Int32 → List Int32 → List Int32 → List Int32 → List Int32 → List Int32 → List Int32 → List Int32 → List Int32 → List Int32 → List Int32 → List Int32 → List Int32 → List Int32 → List Int32 → Option (Int32 × Int32 × Int32 × Int32 × Int32 × Int32 × Int32 × Int32 × Bool × Int32 × Int32 × Int32 × List Int32 × List Int32 × List Int32 × List Int32 × List Int32 × List Int32 × List Int32 × List Int32 × List Int32 × List Int32 × List Int32 × List Int32 × List Int32 × List Int32 × List Int32)) (n : Nat) (x1 : Int32) (x2 : Int32) (x3 : Int32) (x4 : Int32) (x5 : Int32) (v_rowsOf : Int32) (v_columnsOf : Int32) (v_textMany : Int32) (v_base : Int32) (v_at : Int32) (v_ends : Int32) (v_fault : Int32) (v_opened : Int32) (v_bentMany : Int32) (v_bentWrong : Int32) (v_moreWorn : Int32) (v_wishedField : Int32) (v_isFound : Bool) (v_bestWrong : Int32) (v_bestWorn : Int32) (v_bestMany : Int32) (v_limit : List Int32) (v_shapeRows : List Int32) (v_shapeColumns : List Int32) (v_row : List Int32) (v_column : List Int32) (v_below : List Int32) (v_face : List Int32) (v_worn : List Int32) (v_lastBend : List Int32) (v_tape : List Int32) (v_text : List Int32) (v_names : List Int32) (v_bends : List Int32) (v_high : List Int32) (v_to : List Int32) (v_pileSize : List Int32) (v_way1 : List Int32) (v_bestWay : List Int32) : fX9_goesDeeper_66 N go (n + 1) x1 x2 x3 x4 x5 v_rowsOf v_columnsOf v_textMany v_base v_at v_ends v_fault v_opened v_bentMany v_bentWrong v_moreWorn v_wishedField v_isFound v_bestWrong v_bestWorn v_bestMany v_limit v_shapeRows v_shapeColumns v_row v_column v_below v_face v_worn v_lastBend v_tape v_text v_names v_bends v_high v_to v_pileSize v_way1 v_bestWay = 
    if (8 : Int32) ≤ x5 then
    (some (v_base, v_at, v_ends, v_fault, v_opened, v_bentMany, v_bentWrong, v_moreWorn, v_isFound, v_bestWrong, v_bestWorn, v_bestMany, v_shapeRows, v_shapeColumns, v_row, v_column, v_below, v_face, v_worn, v_lastBend, v_names, v_bends, v_high, v_to, v_pileSize, v_way1, v_bestWay))
    else (fX9_goesDeeper_76 N go (fX9_goesDeeper_66 N go n) N x1 x2 x3 x4 x5 (0 : Int32) v_rowsOf v_columnsOf v_textMany v_base v_at v_ends v_fault v_opened v_bentMany v_bentWrong v_moreWorn v_wishedField v_isFound v_bestWrong v_bestWorn v_bestMany v_limit v_shapeRows v_shapeColumns v_row v_column v_below v_face v_worn v_lastBend v_tape v_text v_names v_bends v_high v_to v_pileSize v_way1 v_bestWay) := rfl

set_option maxHeartbeats 4000000 in
set_option maxRecDepth 20000 in
theorem sf_X9_goesDeeper_66 {N : Nat} (hN : 700 ≤ N) {K : Int} {u_row : List Int32} {u_col : List Int32} {u_sR : List Int32} {u_sC : List Int32} {A : Int} {B9 : Int} {a9 : Int} {b9 : Int} {go : Int32 → Int32 → Int32 → Int32 → Int32 → Int32 → Int32 → Int32 → Int32 → Int32 → Int32 → Int32 → Int32 → Int32 → Int32 → Bool → Int32 → Int32 → Int32 → List Int32 → List Int32 → List Int32 → List Int32 → List Int32 → List Int32 → List Int32 → List Int32 → List Int32 → List Int32 → List Int32 → List Int32 → List Int32 → List Int32 → List Int32 → List Int32 → List Int32 → List Int32 → Option (Int32 × Int32 × Int32 × Int32 × Int32 × Int32 × Int32 × Int32 × Bool × Int32 × Int32 × Int32 × List Int32 × List Int32 × List Int32 × List Int32 × List Int32 × List Int32 × List Int32 × List Int32 × List Int32 × List Int32 × List Int32 × List Int32 × List Int32 × List Int32 × List Int32)} (hgo : ∀ (u_row : List Int32) (u_col : List Int32) (u_sR : List Int32) (u_sC : List Int32) (A : Int) (B9 : Int) (a9 : Int) (b9 : Int) (x1 : Int32) (x2 : Int32) (x3 : Int32) (v_rowsOf : Int32) (v_columnsOf : Int32) (v_textMany : Int32) (v_base : Int32) (v_at : Int32) (v_ends : Int32) (v_fault : Int32) (v_opened : Int32) (v_bentMany : Int32) (v_bentWrong : Int32) (v_moreWorn : Int32) (v_wishedField : Int32) (v_isFound : Bool) (v_bestWrong : Int32) (v_bestWorn : Int32) (v_bestMany : Int32) (v_limit : List Int32) (v_shapeRows : List Int32) (v_shapeColumns : List Int32) (v_row : List Int32) (v_column : List Int32) (v_below : List Int32) (v_face : List Int32) (v_worn : List Int32) (v_lastBend : List Int32) (v_tape : List Int32) (v_text : List Int32) (v_names : List Int32) (v_bends : List Int32) (v_high : List Int32) (v_to : List Int32) (v_pileSize : List Int32) (v_way1 : List Int32) (v_bestWay : List Int32), 1 ≤ v_rowsOf.toInt → v_rowsOf.toInt ≤ 4 → 1 ≤ v_columnsOf.toInt → v_columnsOf.toInt ≤ 8 → -1 ≤ v_textMany.toInt → v_textMany.toInt ≤ 120 → 0 ≤ v_bestMany.toInt → v_bestMany.toInt ≤ 3 → v_limit.length = 1 → v_shapeRows.length = 6 → v_shapeColumns.length = 6 → v_row.length = 192 → v_column.length = 192 → v_below.length = 192 → v_face.length = 192 → v_worn.length = 384 → v_lastBend.length = 384 → v_tape.length = 120 → v_text.length = 120 → v_names.length = 6 → v_bends.length = 64 → v_high.length = 32 → v_to.length = 32 → v_pileSize.length = 64 → v_way1.length = 3 → v_bestWay.length = 3 → 0 ≤ x1.toInt → x1.toInt ≤ 3 → fr u_row v_row A B9 → fr u_col v_column A B9 → fr u_sR v_shapeRows a9 b9 → fr u_sC v_shapeColumns a9 b9 → A ≤ 32 * x1.toInt + 64 → 160 ≤ B9 → a9 ≤ x1.toInt + 2 → 5 ≤ b9 → lvI v_rowsOf v_columnsOf v_shapeRows v_shapeColumns v_row v_column (x1.toInt + 1) → K ≤ x1.toInt → wp (go x1 x2 x3 v_rowsOf v_columnsOf v_textMany v_base v_at v_ends v_fault v_opened v_bentMany v_bentWrong v_moreWorn v_wishedField v_isFound v_bestWrong v_bestWorn v_bestMany v_limit v_shapeRows v_shapeColumns v_row v_column v_below v_face v_worn v_lastBend v_tape v_text v_names v_bends v_high v_to v_pileSize v_way1 v_bestWay) (cu27 (fun (wv_base : Int32) (wv_at : Int32) (wv_ends : Int32) (wv_fault : Int32) (wv_opened : Int32) (wv_bentMany : Int32) (wv_bentWrong : Int32) (wv_moreWorn : Int32) (wv_isFound : Bool) (wv_bestWrong : Int32) (wv_bestWorn : Int32) (wv_bestMany : Int32) (wv_shapeRows : List Int32) (wv_shapeColumns : List Int32) (wv_row : List Int32) (wv_column : List Int32) (wv_below : List Int32) (wv_face : List Int32) (wv_worn : List Int32) (wv_lastBend : List Int32) (wv_names : List Int32) (wv_bends : List Int32) (wv_high : List Int32) (wv_to : List Int32) (wv_pileSize : List Int32) (wv_way1 : List Int32) (wv_bestWay : List Int32) => 0 ≤ wv_bestMany.toInt ∧ wv_bestMany.toInt ≤ 3 ∧ wv_shapeRows.length = 6 ∧ wv_shapeColumns.length = 6 ∧ wv_row.length = 192 ∧ wv_column.length = 192 ∧ wv_below.length = 192 ∧ wv_face.length = 192 ∧ wv_worn.length = 384 ∧ wv_lastBend.length = 384 ∧ wv_names.length = 6 ∧ wv_bends.length = 64 ∧ wv_high.length = 32 ∧ wv_to.length = 32 ∧ wv_pileSize.length = 64 ∧ wv_way1.length = 3 ∧ wv_bestWay.length = 3 ∧ fr u_row wv_row A B9 ∧ fr u_col wv_column A B9 ∧ fr u_sR wv_shapeRows a9 b9 ∧ fr u_sC wv_shapeColumns a9 b9))) : ∀ (n : Nat) (x1 : Int32) (x2 : Int32) (x3 : Int32) (x4 : Int32) (x5 : Int32) (v_rowsOf : Int32) (v_columnsOf : Int32) (v_textMany : Int32) (v_base : Int32) (v_at : Int32) (v_ends : Int32) (v_fault : Int32) (v_opened : Int32) (v_bentMany : Int32) (v_bentWrong : Int32) (v_moreWorn : Int32) (v_wishedField : Int32) (v_isFound : Bool) (v_bestWrong : Int32) (v_bestWorn : Int32) (v_bestMany : Int32) (v_limit : List Int32) (v_shapeRows : List Int32) (v_shapeColumns : List Int32) (v_row : List Int32) (v_column : List Int32) (v_below : List Int32) (v_face : List Int32) (v_worn : List Int32) (v_lastBend : List Int32) (v_tape : List Int32) (v_text : List Int32) (v_names : List Int32) (v_bends : List Int32) (v_high : List Int32) (v_to : List Int32) (v_pileSize : List Int32) (v_way1 : List Int32) (v_bestWay : List Int32), 1 ≤ v_rowsOf.toInt → v_rowsOf.toInt ≤ 4 → 1 ≤ v_columnsOf.toInt → v_columnsOf.toInt ≤ 8 → -1 ≤ v_textMany.toInt → v_textMany.toInt ≤ 120 → 0 ≤ v_bestMany.toInt → v_bestMany.toInt ≤ 3 → v_limit.length = 1 → v_shapeRows.length = 6 → v_shapeColumns.length = 6 → v_row.length = 192 → v_column.length = 192 → v_below.length = 192 → v_face.length = 192 → v_worn.length = 384 → v_lastBend.length = 384 → v_tape.length = 120 → v_text.length = 120 → v_names.length = 6 → v_bends.length = 64 → v_high.length = 32 → v_to.length = 32 → v_pileSize.length = 64 → v_way1.length = 3 → v_bestWay.length = 3 → 0 ≤ x1.toInt → x1.toInt ≤ 2 → x4.toInt = x1.toInt + 1 → K ≤ x1.toInt + 1 → fr u_row v_row A B9 → fr u_col v_column A B9 → fr u_sR v_shapeRows a9 b9 → fr u_sC v_shapeColumns a9 b9 → A ≤ 32 * x1.toInt + 64 → 160 ≤ B9 → a9 ≤ x1.toInt + 2 → 5 ≤ b9 → lv9 v_rowsOf v_columnsOf v_shapeRows v_shapeColumns v_row v_column x4 → 1 ≤ x5.toInt → x5.toInt ≤ 8 → (9 - x5.toInt).toNat < n → wp (fX9_goesDeeper_66 N go n x1 x2 x3 x4 x5 v_rowsOf v_columnsOf v_textMany v_base v_at v_ends v_fault v_opened v_bentMany v_bentWrong v_moreWorn v_wishedField v_isFound v_bestWrong v_bestWorn v_bestMany v_limit v_shapeRows v_shapeColumns v_row v_column v_below v_face v_worn v_lastBend v_tape v_text v_names v_bends v_high v_to v_pileSize v_way1 v_bestWay) (cu27 (fun (wv_base : Int32) (wv_at : Int32) (wv_ends : Int32) (wv_fault : Int32) (wv_opened : Int32) (wv_bentMany : Int32) (wv_bentWrong : Int32) (wv_moreWorn : Int32) (wv_isFound : Bool) (wv_bestWrong : Int32) (wv_bestWorn : Int32) (wv_bestMany : Int32) (wv_shapeRows : List Int32) (wv_shapeColumns : List Int32) (wv_row : List Int32) (wv_column : List Int32) (wv_below : List Int32) (wv_face : List Int32) (wv_worn : List Int32) (wv_lastBend : List Int32) (wv_names : List Int32) (wv_bends : List Int32) (wv_high : List Int32) (wv_to : List Int32) (wv_pileSize : List Int32) (wv_way1 : List Int32) (wv_bestWay : List Int32) => 0 ≤ wv_bestMany.toInt ∧ wv_bestMany.toInt ≤ 3 ∧ wv_shapeRows.length = 6 ∧ wv_shapeColumns.length = 6 ∧ wv_row.length = 192 ∧ wv_column.length = 192 ∧ wv_below.length = 192 ∧ wv_face.length = 192 ∧ wv_worn.length = 384 ∧ wv_lastBend.length = 384 ∧ wv_names.length = 6 ∧ wv_bends.length = 64 ∧ wv_high.length = 32 ∧ wv_to.length = 32 ∧ wv_pileSize.length = 64 ∧ wv_way1.length = 3 ∧ wv_bestWay.length = 3 ∧ fr u_row wv_row A B9 ∧ fr u_col wv_column A B9 ∧ fr u_sR wv_shapeRows a9 b9 ∧ fr u_sC wv_shapeColumns a9 b9)) := by
  intro n
  induction n with
  | zero =>
    intro x1 x2 x3 x4 x5 v_rowsOf v_columnsOf v_textMany v_base v_at v_ends v_fault v_opened v_bentMany v_bentWrong v_moreWorn v_wishedField v_isFound v_bestWrong v_bestWorn v_bestMany v_limit v_shapeRows v_shapeColumns v_row v_column v_below v_face v_worn v_lastBend v_tape v_text v_names v_bends v_high v_to v_pileSize v_way1 v_bestWay h_0 h_1 h_2 h_3 h_4 h_5 h_6 h_7 h_8 h_9 h_10 h_11 h_12 h_13 h_14 h_15 h_16 h_17 h_18 h_19 h_20 h_21 h_22 h_23 h_24 h_25 h_26 h_27 h_28 h_29 h_30 h_31 h_32 h_33 h_34 h_35 h_36 h_37 h_38 h_39 h_40 hm
    exact absurd hm (by omega)
  | succ n ih =>
    intro x1 x2 x3 x4 x5 v_rowsOf v_columnsOf v_textMany v_base v_at v_ends v_fault v_opened v_bentMany v_bentWrong v_moreWorn v_wishedField v_isFound v_bestWrong v_bestWorn v_bestMany v_limit v_shapeRows v_shapeColumns v_row v_column v_below v_face v_worn v_lastBend v_tape v_text v_names v_bends v_high v_to v_pileSize v_way1 v_bestWay h_0 h_1 h_2 h_3 h_4 h_5 h_6 h_7 h_8 h_9 h_10 h_11 h_12 h_13 h_14 h_15 h_16 h_17 h_18 h_19 h_20 h_21 h_22 h_23 h_24 h_25 h_26 h_27 h_28 h_29 h_30 h_31 h_32 h_33 h_34 h_35 h_36 h_37 h_38 h_39 h_40 hm
    refine wp_of (uf_X9_goesDeeper_66 _ _ _ _ _ _ _ _ _ _ _ _ _ _ _ _ _ _ _ _ _ _ _ _ _ _ _ _ _ _ _ _ _ _ _ _ _ _ _ _ _ _) ?_
    have n_2 : (8 : Int32).toInt = 8 := by decide
    refine wp_if (fun c_1 => ?_) (fun c_1 => ?_)
    ·
      have dc_1 := i_le c_1
      exact wp_so27 ⟨h_6, h_7, h_9, h_10, h_11, h_12, h_13, h_14, h_15, h_16, h_19, h_20, h_21, h_22, h_23, h_24, h_25, h_30, h_31, h_32, h_33⟩
    ·
      have dc_1 := i_nle c_1
      have n_3 : (0 : Int32).toInt = 0 := by decide
      exact sf_X9_goesDeeper_76 (u_row := u_row) (u_col := u_col) (u_sR := u_sR) (u_sC := u_sC) (A := A) (B9 := B9) (a9 := a9) (b9 := b9) hN hgo ih _ _ _ _ _ _ _ _ _ _ _ _ _ _ _ _ _ _ _ _ _ _ _ _ _ _ _ _ _ _ _ _ _ _ _ _ _ _ _ _ _ h_0 h_1 h_2 h_3 h_4 h_5 h_6 h_7 h_8 h_9 h_10 h_11 h_12 h_13 h_14 h_15 h_16 h_17 h_18 h_19 h_20 h_21 h_22 h_23 h_24 h_25 h_26 h_27 h_28 h_29 h_30 h_31 h_32 h_33 h_34 h_35 h_36 h_37 h_38 h_39 (by omega) (by omega) (by omega) (by omega) (by omega)

theorem uf_X9_goesDeeper (N : Nat) (M : Nat) (z0 : Int32) (z1 : Int32) (z2 : Int32) (z3 : Int32) (z4 : Int32) (z5 : Int32) (z6 : Int32) (z7 : Int32) (z8 : Int32) (z9 : Int32) (z10 : Int32) (z11 : Int32) (z12 : Int32) (z13 : Int32) (z14 : Int32) (z15 : Bool) (z16 : Int32) (z17 : Int32) (z18 : Int32) (z19 : List Int32) (z20 : List Int32) (z21 : List Int32) (z22 : List Int32) (z23 : List Int32) (z24 : List Int32) (z25 : List Int32) (z26 : List Int32) (z27 : List Int32) (z28 : List Int32) (z29 : List Int32) (z30 : List Int32) (z31 : List Int32) (z32 : List Int32) (z33 : List Int32) (z34 : List Int32) (z35 : List Int32) (z36 : List Int32) : fX9_goesDeeper N (M + 1) z0 z1 z2 z3 z4 z5 z6 z7 z8 z9 z10 z11 z12 z13 z14 z15 z16 z17 z18 z19 z20 z21 z22 z23 z24 z25 z26 z27 z28 z29 z30 z31 z32 z33 z34 z35 z36 = (fX9_goesDeepero N (fX9_goesDeeper N M)) z0 z1 z2 z3 z4 z5 z6 z7 z8 z9 z10 z11 z12 z13 z14 z15 z16 z17 z18 z19 z20 z21 z22 z23 z24 z25 z26 z27 z28 z29 z30 z31 z32 z33 z34 z35 z36 := rfl

theorem uf_X9_goesDeeper_35 (N : Nat) (go : Int32 → Int32 → Int32 → Int32 → Int32 → Int32 → Int32 → Int32 → Int32 → Int32 → Int32 → Int32 → Int32 → Int32 → Int32 → Bool → Int32 → Int32 → Int32 → List Int32 → List Int32 → List Int32 → List Int32 → List Int32 → List Int32 → List Int32 → List Int32 → List Int32 → List Int32 → List Int32 → List Int32 → List Int32 → List Int32 → List Int32 → List Int32 → List Int32 → List Int32 → Option (Int32 × Int32 × Int32 × Int32 × Int32 × Int32 × Int32 × Int32 × Bool × Int32 × Int32 × Int32 × List Int32 × List Int32 × List Int32 × List Int32 × List Int32 × List Int32 × List Int32 × List Int32 × List Int32 × List Int32 × List Int32 × List Int32 × List Int32 × List Int32 × List Int32)) (x1 : Int32) (x2 : Int32) (x3 : Int32) (x4 : Int32) (v_rowsOf : Int32) (v_columnsOf : Int32) (v_textMany : Int32) (v_base : Int32) (v_at : Int32) (v_ends : Int32) (v_fault : Int32) (v_opened : Int32) (v_bentMany : Int32) (v_bentWrong : Int32) (v_moreWorn : Int32) (v_wishedField : Int32) (v_isFound : Bool) (v_bestWrong : Int32) (v_bestWorn : Int32) (v_bestMany : Int32) (v_limit : List Int32) (v_shapeRows : List Int32) (v_shapeColumns : List Int32) (v_row : List Int32) (v_column : List Int32) (v_below : List Int32) (v_face : List Int32) (v_worn : List Int32) (v_lastBend : List Int32) (v_tape : List Int32) (v_text : List Int32) (v_names : List Int32) (v_bends : List Int32) (v_high : List Int32) (v_to : List Int32) (v_pileSize : List Int32) (v_way1 : List Int32) (v_bestWay : List Int32) : fX9_goesDeeper_35 N go x1 x2 x3 x4 v_rowsOf v_columnsOf v_textMany v_base v_at v_ends v_fault v_opened v_bentMany v_bentWrong v_moreWorn v_wishedField v_isFound v_bestWrong v_bestWorn v_bestMany v_limit v_shapeRows v_shapeColumns v_row v_column v_below v_face v_worn v_lastBend v_tape v_text v_names v_bends v_high v_to v_pileSize v_way1 v_bestWay = mm_ck (mm_inb x4 v_shapeRows.length) (mm_bd1 (fX9_halvings N (mm_ig v_shapeRows x4)) (fun (r_13 : Int32) =>
    mm_ck (mm_inb x4 v_shapeColumns.length) (mm_bd1 (fX9_halvings N (mm_ig v_shapeColumns x4)) (fun (r_16 : Int32) =>
    if (r_13 + r_16) ≤ ((3 : Int32) - x1) then
    (fX9_goesDeeper_66 N go N x1 x2 x3 x4 (1 : Int32) v_rowsOf v_columnsOf v_textMany v_base v_at v_ends v_fault v_opened v_bentMany v_bentWrong v_moreWorn v_wishedField v_isFound v_bestWrong v_bestWorn v_bestMany v_limit v_shapeRows v_shapeColumns v_row v_column v_below v_face v_worn v_lastBend v_tape v_text v_names v_bends v_high v_to v_pileSize v_way1 v_bestWay)
    else (some (v_base, v_at, v_ends, v_fault, v_opened, v_bentMany, v_bentWrong, v_moreWorn, v_isFound, v_bestWrong, v_bestWorn, v_bestMany, v_shapeRows, v_shapeColumns, v_row, v_column, v_below, v_face, v_worn, v_lastBend, v_names, v_bends, v_high, v_to, v_pileSize, v_way1, v_bestWay)))))) := rfl

theorem uf_X9_goesDeepero (N : Nat) (go : Int32 → Int32 → Int32 → Int32 → Int32 → Int32 → Int32 → Int32 → Int32 → Int32 → Int32 → Int32 → Int32 → Int32 → Int32 → Bool → Int32 → Int32 → Int32 → List Int32 → List Int32 → List Int32 → List Int32 → List Int32 → List Int32 → List Int32 → List Int32 → List Int32 → List Int32 → List Int32 → List Int32 → List Int32 → List Int32 → List Int32 → List Int32 → List Int32 → List Int32 → Option (Int32 × Int32 × Int32 × Int32 × Int32 × Int32 × Int32 × Int32 × Bool × Int32 × Int32 × Int32 × List Int32 × List Int32 × List Int32 × List Int32 × List Int32 × List Int32 × List Int32 × List Int32 × List Int32 × List Int32 × List Int32 × List Int32 × List Int32 × List Int32 × List Int32)) (x1 : Int32) (x2 : Int32) (x3 : Int32) (v_rowsOf : Int32) (v_columnsOf : Int32) (v_textMany : Int32) (v_base : Int32) (v_at : Int32) (v_ends : Int32) (v_fault : Int32) (v_opened : Int32) (v_bentMany : Int32) (v_bentWrong : Int32) (v_moreWorn : Int32) (v_wishedField : Int32) (v_isFound : Bool) (v_bestWrong : Int32) (v_bestWorn : Int32) (v_bestMany : Int32) (v_limit : List Int32) (v_shapeRows : List Int32) (v_shapeColumns : List Int32) (v_row : List Int32) (v_column : List Int32) (v_below : List Int32) (v_face : List Int32) (v_worn : List Int32) (v_lastBend : List Int32) (v_tape : List Int32) (v_text : List Int32) (v_names : List Int32) (v_bends : List Int32) (v_high : List Int32) (v_to : List Int32) (v_pileSize : List Int32) (v_way1 : List Int32) (v_bestWay : List Int32) : fX9_goesDeepero N go x1 x2 x3 v_rowsOf v_columnsOf v_textMany v_base v_at v_ends v_fault v_opened v_bentMany v_bentWrong v_moreWorn v_wishedField v_isFound v_bestWrong v_bestWorn v_bestMany v_limit v_shapeRows v_shapeColumns v_row v_column v_below v_face v_worn v_lastBend v_tape v_text v_names v_bends v_high v_to v_pileSize v_way1 v_bestWay = mm_nm ((x1 + (1 : Int32))) (fun (y_1 : Int32) =>
    mm_ck (mm_inb y_1 v_shapeRows.length) (if (mm_ig v_shapeRows y_1) = (1 : Int32) then
    (mm_ck (mm_inb y_1 v_shapeColumns.length) (if (mm_ig v_shapeColumns y_1) = (1 : Int32) then
    (mm_bd5 (fX9_ends1 N x1 x2 x3 v_rowsOf v_columnsOf v_wishedField v_isFound v_bestWrong v_bestWorn v_bestMany v_row v_column v_below v_way1 v_bestWay) (fun (w_6 : Bool) (w_7 : Int32) (w_8 : Int32) (w_9 : Int32) (w_10 : List Int32) =>
    some (v_base, v_at, v_ends, v_fault, v_opened, v_bentMany, v_bentWrong, v_moreWorn, w_6, w_7, w_8, w_9, v_shapeRows, v_shapeColumns, v_row, v_column, v_below, v_face, v_worn, v_lastBend, v_names, v_bends, v_high, v_to, v_pileSize, v_way1, w_10)))
    else (fX9_goesDeeper_35 N go x1 x2 x3 y_1 v_rowsOf v_columnsOf v_textMany v_base v_at v_ends v_fault v_opened v_bentMany v_bentWrong v_moreWorn v_wishedField v_isFound v_bestWrong v_bestWorn v_bestMany v_limit v_shapeRows v_shapeColumns v_row v_column v_below v_face v_worn v_lastBend v_tape v_text v_names v_bends v_high v_to v_pileSize v_way1 v_bestWay)))
    else (fX9_goesDeeper_35 N go x1 x2 x3 y_1 v_rowsOf v_columnsOf v_textMany v_base v_at v_ends v_fault v_opened v_bentMany v_bentWrong v_moreWorn v_wishedField v_isFound v_bestWrong v_bestWorn v_bestMany v_limit v_shapeRows v_shapeColumns v_row v_column v_below v_face v_worn v_lastBend v_tape v_text v_names v_bends v_high v_to v_pileSize v_way1 v_bestWay))) := rfl

set_option maxHeartbeats 4000000 in
set_option maxRecDepth 20000 in
theorem sf_X9_goesDeepero {N : Nat} (hN : 700 ≤ N) {K : Int} {u_row : List Int32} {u_col : List Int32} {u_sR : List Int32} {u_sC : List Int32} {A : Int} {B9 : Int} {a9 : Int} {b9 : Int} {go : Int32 → Int32 → Int32 → Int32 → Int32 → Int32 → Int32 → Int32 → Int32 → Int32 → Int32 → Int32 → Int32 → Int32 → Int32 → Bool → Int32 → Int32 → Int32 → List Int32 → List Int32 → List Int32 → List Int32 → List Int32 → List Int32 → List Int32 → List Int32 → List Int32 → List Int32 → List Int32 → List Int32 → List Int32 → List Int32 → List Int32 → List Int32 → List Int32 → List Int32 → Option (Int32 × Int32 × Int32 × Int32 × Int32 × Int32 × Int32 × Int32 × Bool × Int32 × Int32 × Int32 × List Int32 × List Int32 × List Int32 × List Int32 × List Int32 × List Int32 × List Int32 × List Int32 × List Int32 × List Int32 × List Int32 × List Int32 × List Int32 × List Int32 × List Int32)} {x1 : Int32} {x2 : Int32} {x3 : Int32} {v_rowsOf : Int32} {v_columnsOf : Int32} {v_textMany : Int32} {v_base : Int32} {v_at : Int32} {v_ends : Int32} {v_fault : Int32} {v_opened : Int32} {v_bentMany : Int32} {v_bentWrong : Int32} {v_moreWorn : Int32} {v_wishedField : Int32} {v_isFound : Bool} {v_bestWrong : Int32} {v_bestWorn : Int32} {v_bestMany : Int32} {v_limit : List Int32} {v_shapeRows : List Int32} {v_shapeColumns : List Int32} {v_row : List Int32} {v_column : List Int32} {v_below : List Int32} {v_face : List Int32} {v_worn : List Int32} {v_lastBend : List Int32} {v_tape : List Int32} {v_text : List Int32} {v_names : List Int32} {v_bends : List Int32} {v_high : List Int32} {v_to : List Int32} {v_pileSize : List Int32} {v_way1 : List Int32} {v_bestWay : List Int32} (h_0 : 1 ≤ v_rowsOf.toInt) (h_1 : v_rowsOf.toInt ≤ 4) (h_2 : 1 ≤ v_columnsOf.toInt) (h_3 : v_columnsOf.toInt ≤ 8) (h_4 : -1 ≤ v_textMany.toInt) (h_5 : v_textMany.toInt ≤ 120) (h_6 : 0 ≤ v_bestMany.toInt) (h_7 : v_bestMany.toInt ≤ 3) (h_8 : v_limit.length = 1) (h_9 : v_shapeRows.length = 6) (h_10 : v_shapeColumns.length = 6) (h_11 : v_row.length = 192) (h_12 : v_column.length = 192) (h_13 : v_below.length = 192) (h_14 : v_face.length = 192) (h_15 : v_worn.length = 384) (h_16 : v_lastBend.length = 384) (h_17 : v_tape.length = 120) (h_18 : v_text.length = 120) (h_19 : v_names.length = 6) (h_20 : v_bends.length = 64) (h_21 : v_high.length = 32) (h_22 : v_to.length = 32) (h_23 : v_pileSize.length = 64) (h_24 : v_way1.length = 3) (h_25 : v_bestWay.length = 3) (h_26 : 0 ≤ x1.toInt) (h_27 : x1.toInt ≤ 3) (h_28 : fr u_row v_row A B9) (h_29 : fr u_col v_column A B9) (h_30 : fr u_sR v_shapeRows a9 b9) (h_31 : fr u_sC v_shapeColumns a9 b9) (h_32 : A ≤ 32 * x1.toInt + 64) (h_33 : 160 ≤ B9) (h_34 : a9 ≤ x1.toInt + 2) (h_35 : 5 ≤ b9) (h_36 : lvI v_rowsOf v_columnsOf v_shapeRows v_shapeColumns v_row v_column (x1.toInt + 1)) (hK : K ≤ x1.toInt + 1) (hgo : ∀ (u_row : List Int32) (u_col : List Int32) (u_sR : List Int32) (u_sC : List Int32) (A : Int) (B9 : Int) (a9 : Int) (b9 : Int) (x1 : Int32) (x2 : Int32) (x3 : Int32) (v_rowsOf : Int32) (v_columnsOf : Int32) (v_textMany : Int32) (v_base : Int32) (v_at : Int32) (v_ends : Int32) (v_fault : Int32) (v_opened : Int32) (v_bentMany : Int32) (v_bentWrong : Int32) (v_moreWorn : Int32) (v_wishedField : Int32) (v_isFound : Bool) (v_bestWrong : Int32) (v_bestWorn : Int32) (v_bestMany : Int32) (v_limit : List Int32) (v_shapeRows : List Int32) (v_shapeColumns : List Int32) (v_row : List Int32) (v_column : List Int32) (v_below : List Int32) (v_face : List Int32) (v_worn : List Int32) (v_lastBend : List Int32) (v_tape : List Int32) (v_text : List Int32) (v_names : List Int32) (v_bends : List Int32) (v_high : List Int32) (v_to : List Int32) (v_pileSize : List Int32) (v_way1 : List Int32) (v_bestWay : List Int32), 1 ≤ v_rowsOf.toInt → v_rowsOf.toInt ≤ 4 → 1 ≤ v_columnsOf.toInt → v_columnsOf.toInt ≤ 8 → -1 ≤ v_textMany.toInt → v_textMany.toInt ≤ 120 → 0 ≤ v_bestMany.toInt → v_bestMany.toInt ≤ 3 → v_limit.length = 1 → v_shapeRows.length = 6 → v_shapeColumns.length = 6 → v_row.length = 192 → v_column.length = 192 → v_below.length = 192 → v_face.length = 192 → v_worn.length = 384 → v_lastBend.length = 384 → v_tape.length = 120 → v_text.length = 120 → v_names.length = 6 → v_bends.length = 64 → v_high.length = 32 → v_to.length = 32 → v_pileSize.length = 64 → v_way1.length = 3 → v_bestWay.length = 3 → 0 ≤ x1.toInt → x1.toInt ≤ 3 → fr u_row v_row A B9 → fr u_col v_column A B9 → fr u_sR v_shapeRows a9 b9 → fr u_sC v_shapeColumns a9 b9 → A ≤ 32 * x1.toInt + 64 → 160 ≤ B9 → a9 ≤ x1.toInt + 2 → 5 ≤ b9 → lvI v_rowsOf v_columnsOf v_shapeRows v_shapeColumns v_row v_column (x1.toInt + 1) → K ≤ x1.toInt → wp (go x1 x2 x3 v_rowsOf v_columnsOf v_textMany v_base v_at v_ends v_fault v_opened v_bentMany v_bentWrong v_moreWorn v_wishedField v_isFound v_bestWrong v_bestWorn v_bestMany v_limit v_shapeRows v_shapeColumns v_row v_column v_below v_face v_worn v_lastBend v_tape v_text v_names v_bends v_high v_to v_pileSize v_way1 v_bestWay) (cu27 (fun (wv_base : Int32) (wv_at : Int32) (wv_ends : Int32) (wv_fault : Int32) (wv_opened : Int32) (wv_bentMany : Int32) (wv_bentWrong : Int32) (wv_moreWorn : Int32) (wv_isFound : Bool) (wv_bestWrong : Int32) (wv_bestWorn : Int32) (wv_bestMany : Int32) (wv_shapeRows : List Int32) (wv_shapeColumns : List Int32) (wv_row : List Int32) (wv_column : List Int32) (wv_below : List Int32) (wv_face : List Int32) (wv_worn : List Int32) (wv_lastBend : List Int32) (wv_names : List Int32) (wv_bends : List Int32) (wv_high : List Int32) (wv_to : List Int32) (wv_pileSize : List Int32) (wv_way1 : List Int32) (wv_bestWay : List Int32) => 0 ≤ wv_bestMany.toInt ∧ wv_bestMany.toInt ≤ 3 ∧ wv_shapeRows.length = 6 ∧ wv_shapeColumns.length = 6 ∧ wv_row.length = 192 ∧ wv_column.length = 192 ∧ wv_below.length = 192 ∧ wv_face.length = 192 ∧ wv_worn.length = 384 ∧ wv_lastBend.length = 384 ∧ wv_names.length = 6 ∧ wv_bends.length = 64 ∧ wv_high.length = 32 ∧ wv_to.length = 32 ∧ wv_pileSize.length = 64 ∧ wv_way1.length = 3 ∧ wv_bestWay.length = 3 ∧ fr u_row wv_row A B9 ∧ fr u_col wv_column A B9 ∧ fr u_sR wv_shapeRows a9 b9 ∧ fr u_sC wv_shapeColumns a9 b9))) : wp (fX9_goesDeepero N go x1 x2 x3 v_rowsOf v_columnsOf v_textMany v_base v_at v_ends v_fault v_opened v_bentMany v_bentWrong v_moreWorn v_wishedField v_isFound v_bestWrong v_bestWorn v_bestMany v_limit v_shapeRows v_shapeColumns v_row v_column v_below v_face v_worn v_lastBend v_tape v_text v_names v_bends v_high v_to v_pileSize v_way1 v_bestWay) (cu27 (fun (wv_base : Int32) (wv_at : Int32) (wv_ends : Int32) (wv_fault : Int32) (wv_opened : Int32) (wv_bentMany : Int32) (wv_bentWrong : Int32) (wv_moreWorn : Int32) (wv_isFound : Bool) (wv_bestWrong : Int32) (wv_bestWorn : Int32) (wv_bestMany : Int32) (wv_shapeRows : List Int32) (wv_shapeColumns : List Int32) (wv_row : List Int32) (wv_column : List Int32) (wv_below : List Int32) (wv_face : List Int32) (wv_worn : List Int32) (wv_lastBend : List Int32) (wv_names : List Int32) (wv_bends : List Int32) (wv_high : List Int32) (wv_to : List Int32) (wv_pileSize : List Int32) (wv_way1 : List Int32) (wv_bestWay : List Int32) => 0 ≤ wv_bestMany.toInt ∧ wv_bestMany.toInt ≤ 3 ∧ wv_shapeRows.length = 6 ∧ wv_shapeColumns.length = 6 ∧ wv_row.length = 192 ∧ wv_column.length = 192 ∧ wv_below.length = 192 ∧ wv_face.length = 192 ∧ wv_worn.length = 384 ∧ wv_lastBend.length = 384 ∧ wv_names.length = 6 ∧ wv_bends.length = 64 ∧ wv_high.length = 32 ∧ wv_to.length = 32 ∧ wv_pileSize.length = 64 ∧ wv_way1.length = 3 ∧ wv_bestWay.length = 3 ∧ fr u_row wv_row A B9 ∧ fr u_col wv_column A B9 ∧ fr u_sR wv_shapeRows a9 b9 ∧ fr u_sC wv_shapeColumns a9 b9)) := by
  have m3 := (i_fl (a := v_rowsOf) (b := v_columnsOf) (by omega) (by omega) (by omega) (by omega)).2
  refine wp_of (uf_X9_goesDeepero _ _ _ _ _ _ _ _ _ _ _ _ _ _ _ _ _ _ _ _ _ _ _ _ _ _ _ _ _ _ _ _ _ _ _ _ _ _ _) ?_
  have n_1 : (1 : Int32).toInt = 1 := by decide
  refine wp_nm (fun y_1 h_y_1 => ?_)
  have e_2 := i_addE h_y_1.symm (by omega) (by omega)
  have lvy : lv9 v_rowsOf v_columnsOf v_shapeRows v_shapeColumns v_row v_column y_1 := (show lvI v_rowsOf v_columnsOf v_shapeRows v_shapeColumns v_row v_column (x1.toInt + 1) by assumption) y_1 (by omega)
  obtain ⟨l1, l2, l3, l4, l5, l6⟩ := id lvy
  refine wp_ck (i_inb (by omega) (by omega)) ?_
  refine wp_if (fun c_3 => ?_) (fun c_3 => ?_)
  ·
    have dc_3 := i_eq c_3
    refine wp_ck (i_inb (by omega) (by omega)) ?_
    refine wp_if (fun c_4 => ?_) (fun c_4 => ?_)
    ·
      have dc_4 := i_eq c_4
      refine wp_bd5 (sf_X9_ends1 hN h_0 h_1 h_2 h_3 h_6 h_7 h_11 h_12 h_13 h_24 h_25 h_26 h_27) (fun w_6 w_7 w_8 w_9 w_10 ⟨q_5, q_6, q_7⟩ => ?_)
      exact wp_so27 ⟨q_5, q_6, h_9, h_10, h_11, h_12, h_13, h_14, h_15, h_16, h_19, h_20, h_21, h_22, h_23, h_24, q_7, h_28, h_29, h_30, h_31⟩
    ·
      have dc_4 := i_ne c_4
      refine wp_of (uf_X9_goesDeeper_35 _ _ _ _ _ _ _ _ _ _ _ _ _ _ _ _ _ _ _ _ _ _ _ _ _ _ _ _ _ _ _ _ _ _ _ _ _ _ _ _) ?_
      refine wp_ck (i_inb (by omega) (by omega)) ?_
      refine wp_bd1 (sf_X9_halvings hN (by omega)) (fun r_13 ⟨q_8, q_9, q_10⟩ => ?_)
      refine wp_ck (i_inb (by omega) (by omega)) ?_
      refine wp_bd1 (sf_X9_halvings hN (by omega)) (fun r_16 ⟨q_11, q_12, q_13⟩ => ?_)
      generalize hz_z : (r_13 + r_16) = z
      have e_15 := i_addE hz_z (by omega) (by omega)
      have n_16 : (3 : Int32).toInt = 3 := by decide
      generalize hz_z__17 : ((3 : Int32) - x1) = z__17
      have e_18 := i_subE hz_z__17 (by omega) (by omega)
      refine wp_if (fun c_14 => ?_) (fun c_14 => ?_)
      ·
        have dc_14 := i_le c_14
        exact sf_X9_goesDeeper_66 (u_row := u_row) (u_col := u_col) (u_sR := u_sR) (u_sC := u_sC) (A := A) (B9 := B9) (a9 := a9) (b9 := b9) hN hgo _ _ _ _ _ _ _ _ _ _ _ _ _ _ _ _ _ _ _ _ _ _ _ _ _ _ _ _ _ _ _ _ _ _ _ _ _ _ _ _ h_0 h_1 h_2 h_3 h_4 h_5 h_6 h_7 h_8 h_9 h_10 h_11 h_12 h_13 h_14 h_15 h_16 h_17 h_18 h_19 h_20 h_21 h_22 h_23 h_24 h_25 h_26 (by omega) (by omega) (by omega) h_28 h_29 h_30 h_31 h_32 h_33 h_34 h_35 (by first | assumption | exact (show lvI _ _ _ _ _ _ _ by assumption) _ (by omega) | exact lv9_fr (by assumption) (by assumption) (by assumption) (by assumption) (by assumption) (by omega) (by omega) (by omega) (by omega) (by omega) | exact ⟨by omega, by omega, by omega, by omega, (by first | assumption | exact zn_nil (by omega) | (exfalso; omega)), (by first | assumption | exact zn_nil (by omega) | (exfalso; omega))⟩) (by omega) (by omega) (by omega)
      ·
        have dc_14 := i_nle c_14
        exact wp_so27 ⟨h_6, h_7, h_9, h_10, h_11, h_12, h_13, h_14, h_15, h_16, h_19, h_20, h_21, h_22, h_23, h_24, h_25, h_28, h_29, h_30, h_31⟩
  ·
    have dc_3 := i_ne c_3
    refine wp_of (uf_X9_goesDeeper_35 _ _ _ _ _ _ _ _ _ _ _ _ _ _ _ _ _ _ _ _ _ _ _ _ _ _ _ _ _ _ _ _ _ _ _ _ _ _ _ _) ?_
    refine wp_ck (i_inb (by omega) (by omega)) ?_
    refine wp_bd1 (sf_X9_halvings hN (by omega)) (fun r_13__19 ⟨q_20, q_21, q_22⟩ => ?_)
    refine wp_ck (i_inb (by omega) (by omega)) ?_
    refine wp_bd1 (sf_X9_halvings hN (by omega)) (fun r_16__23 ⟨q_24, q_25, q_26⟩ => ?_)
    generalize hz_z__28 : (r_13__19 + r_16__23) = z__28
    have e_29 := i_addE hz_z__28 (by omega) (by omega)
    have n_30 : (3 : Int32).toInt = 3 := by decide
    generalize hz_z__31 : ((3 : Int32) - x1) = z__31
    have e_32 := i_subE hz_z__31 (by omega) (by omega)
    refine wp_if (fun c_27 => ?_) (fun c_27 => ?_)
    ·
      have dc_27 := i_le c_27
      exact sf_X9_goesDeeper_66 (u_row := u_row) (u_col := u_col) (u_sR := u_sR) (u_sC := u_sC) (A := A) (B9 := B9) (a9 := a9) (b9 := b9) hN hgo _ _ _ _ _ _ _ _ _ _ _ _ _ _ _ _ _ _ _ _ _ _ _ _ _ _ _ _ _ _ _ _ _ _ _ _ _ _ _ _ h_0 h_1 h_2 h_3 h_4 h_5 h_6 h_7 h_8 h_9 h_10 h_11 h_12 h_13 h_14 h_15 h_16 h_17 h_18 h_19 h_20 h_21 h_22 h_23 h_24 h_25 h_26 (by omega) (by omega) (by omega) h_28 h_29 h_30 h_31 h_32 h_33 h_34 h_35 (by first | assumption | exact (show lvI _ _ _ _ _ _ _ by assumption) _ (by omega) | exact lv9_fr (by assumption) (by assumption) (by assumption) (by assumption) (by assumption) (by omega) (by omega) (by omega) (by omega) (by omega) | exact ⟨by omega, by omega, by omega, by omega, (by first | assumption | exact zn_nil (by omega) | (exfalso; omega)), (by first | assumption | exact zn_nil (by omega) | (exfalso; omega))⟩) (by omega) (by omega) (by omega)
    ·
      have dc_27 := i_nle c_27
      exact wp_so27 ⟨h_6, h_7, h_9, h_10, h_11, h_12, h_13, h_14, h_15, h_16, h_19, h_20, h_21, h_22, h_23, h_24, h_25, h_28, h_29, h_30, h_31⟩
set_option maxHeartbeats 4000000 in
set_option maxRecDepth 20000 in
theorem sf_X9_goesDeeper {N : Nat} (hN : 700 ≤ N) : ∀ (M : Nat) (u_row : List Int32) (u_col : List Int32) (u_sR : List Int32) (u_sC : List Int32) (A : Int) (B9 : Int) (a9 : Int) (b9 : Int) (x1 : Int32) (x2 : Int32) (x3 : Int32) (v_rowsOf : Int32) (v_columnsOf : Int32) (v_textMany : Int32) (v_base : Int32) (v_at : Int32) (v_ends : Int32) (v_fault : Int32) (v_opened : Int32) (v_bentMany : Int32) (v_bentWrong : Int32) (v_moreWorn : Int32) (v_wishedField : Int32) (v_isFound : Bool) (v_bestWrong : Int32) (v_bestWorn : Int32) (v_bestMany : Int32) (v_limit : List Int32) (v_shapeRows : List Int32) (v_shapeColumns : List Int32) (v_row : List Int32) (v_column : List Int32) (v_below : List Int32) (v_face : List Int32) (v_worn : List Int32) (v_lastBend : List Int32) (v_tape : List Int32) (v_text : List Int32) (v_names : List Int32) (v_bends : List Int32) (v_high : List Int32) (v_to : List Int32) (v_pileSize : List Int32) (v_way1 : List Int32) (v_bestWay : List Int32), 1 ≤ v_rowsOf.toInt → v_rowsOf.toInt ≤ 4 → 1 ≤ v_columnsOf.toInt → v_columnsOf.toInt ≤ 8 → -1 ≤ v_textMany.toInt → v_textMany.toInt ≤ 120 → 0 ≤ v_bestMany.toInt → v_bestMany.toInt ≤ 3 → v_limit.length = 1 → v_shapeRows.length = 6 → v_shapeColumns.length = 6 → v_row.length = 192 → v_column.length = 192 → v_below.length = 192 → v_face.length = 192 → v_worn.length = 384 → v_lastBend.length = 384 → v_tape.length = 120 → v_text.length = 120 → v_names.length = 6 → v_bends.length = 64 → v_high.length = 32 → v_to.length = 32 → v_pileSize.length = 64 → v_way1.length = 3 → v_bestWay.length = 3 → 0 ≤ x1.toInt → x1.toInt ≤ 3 → fr u_row v_row A B9 → fr u_col v_column A B9 → fr u_sR v_shapeRows a9 b9 → fr u_sC v_shapeColumns a9 b9 → A ≤ 32 * x1.toInt + 64 → 160 ≤ B9 → a9 ≤ x1.toInt + 2 → 5 ≤ b9 → lvI v_rowsOf v_columnsOf v_shapeRows v_shapeColumns v_row v_column (x1.toInt + 1) → 4 - (M : Int) ≤ x1.toInt → wp (fX9_goesDeeper N M x1 x2 x3 v_rowsOf v_columnsOf v_textMany v_base v_at v_ends v_fault v_opened v_bentMany v_bentWrong v_moreWorn v_wishedField v_isFound v_bestWrong v_bestWorn v_bestMany v_limit v_shapeRows v_shapeColumns v_row v_column v_below v_face v_worn v_lastBend v_tape v_text v_names v_bends v_high v_to v_pileSize v_way1 v_bestWay) (cu27 (fun (wv_base : Int32) (wv_at : Int32) (wv_ends : Int32) (wv_fault : Int32) (wv_opened : Int32) (wv_bentMany : Int32) (wv_bentWrong : Int32) (wv_moreWorn : Int32) (wv_isFound : Bool) (wv_bestWrong : Int32) (wv_bestWorn : Int32) (wv_bestMany : Int32) (wv_shapeRows : List Int32) (wv_shapeColumns : List Int32) (wv_row : List Int32) (wv_column : List Int32) (wv_below : List Int32) (wv_face : List Int32) (wv_worn : List Int32) (wv_lastBend : List Int32) (wv_names : List Int32) (wv_bends : List Int32) (wv_high : List Int32) (wv_to : List Int32) (wv_pileSize : List Int32) (wv_way1 : List Int32) (wv_bestWay : List Int32) => 0 ≤ wv_bestMany.toInt ∧ wv_bestMany.toInt ≤ 3 ∧ wv_shapeRows.length = 6 ∧ wv_shapeColumns.length = 6 ∧ wv_row.length = 192 ∧ wv_column.length = 192 ∧ wv_below.length = 192 ∧ wv_face.length = 192 ∧ wv_worn.length = 384 ∧ wv_lastBend.length = 384 ∧ wv_names.length = 6 ∧ wv_bends.length = 64 ∧ wv_high.length = 32 ∧ wv_to.length = 32 ∧ wv_pileSize.length = 64 ∧ wv_way1.length = 3 ∧ wv_bestWay.length = 3 ∧ fr u_row wv_row A B9 ∧ fr u_col wv_column A B9 ∧ fr u_sR wv_shapeRows a9 b9 ∧ fr u_sC wv_shapeColumns a9 b9)) := by
  intro M
  induction M with
  | zero =>
    intro u_row u_col u_sR u_sC A B9 a9 b9 x1 x2 x3 v_rowsOf v_columnsOf v_textMany v_base v_at v_ends v_fault v_opened v_bentMany v_bentWrong v_moreWorn v_wishedField v_isFound v_bestWrong v_bestWorn v_bestMany v_limit v_shapeRows v_shapeColumns v_row v_column v_below v_face v_worn v_lastBend v_tape v_text v_names v_bends v_high v_to v_pileSize v_way1 v_bestWay h_0 h_1 h_2 h_3 h_4 h_5 h_6 h_7 h_8 h_9 h_10 h_11 h_12 h_13 h_14 h_15 h_16 h_17 h_18 h_19 h_20 h_21 h_22 h_23 h_24 h_25 h_26 h_27 h_28 h_29 h_30 h_31 h_32 h_33 h_34 h_35 h_36 hK
    exact absurd hK (by omega)
  | succ M ih =>
    intro u_row u_col u_sR u_sC A B9 a9 b9 x1 x2 x3 v_rowsOf v_columnsOf v_textMany v_base v_at v_ends v_fault v_opened v_bentMany v_bentWrong v_moreWorn v_wishedField v_isFound v_bestWrong v_bestWorn v_bestMany v_limit v_shapeRows v_shapeColumns v_row v_column v_below v_face v_worn v_lastBend v_tape v_text v_names v_bends v_high v_to v_pileSize v_way1 v_bestWay h_0 h_1 h_2 h_3 h_4 h_5 h_6 h_7 h_8 h_9 h_10 h_11 h_12 h_13 h_14 h_15 h_16 h_17 h_18 h_19 h_20 h_21 h_22 h_23 h_24 h_25 h_26 h_27 h_28 h_29 h_30 h_31 h_32 h_33 h_34 h_35 h_36 hK
    rw [uf_X9_goesDeeper]
    exact sf_X9_goesDeepero (K := 4 - (M : Int)) hN h_0 h_1 h_2 h_3 h_4 h_5 h_6 h_7 h_8 h_9 h_10 h_11 h_12 h_13 h_14 h_15 h_16 h_17 h_18 h_19 h_20 h_21 h_22 h_23 h_24 h_25 h_26 h_27 h_28 h_29 h_30 h_31 h_32 h_33 h_34 h_35 h_36 (by omega) ih
set_option maxHeartbeats 4000000 in
set_option maxRecDepth 20000 in
theorem sf_X9_goesDeeper_go {N : Nat} (hN : 700 ≤ N) : ∀ (u_row : List Int32) (u_col : List Int32) (u_sR : List Int32) (u_sC : List Int32) (A : Int) (B9 : Int) (a9 : Int) (b9 : Int) (x1 : Int32) (x2 : Int32) (x3 : Int32) (v_rowsOf : Int32) (v_columnsOf : Int32) (v_textMany : Int32) (v_base : Int32) (v_at : Int32) (v_ends : Int32) (v_fault : Int32) (v_opened : Int32) (v_bentMany : Int32) (v_bentWrong : Int32) (v_moreWorn : Int32) (v_wishedField : Int32) (v_isFound : Bool) (v_bestWrong : Int32) (v_bestWorn : Int32) (v_bestMany : Int32) (v_limit : List Int32) (v_shapeRows : List Int32) (v_shapeColumns : List Int32) (v_row : List Int32) (v_column : List Int32) (v_below : List Int32) (v_face : List Int32) (v_worn : List Int32) (v_lastBend : List Int32) (v_tape : List Int32) (v_text : List Int32) (v_names : List Int32) (v_bends : List Int32) (v_high : List Int32) (v_to : List Int32) (v_pileSize : List Int32) (v_way1 : List Int32) (v_bestWay : List Int32), 1 ≤ v_rowsOf.toInt → v_rowsOf.toInt ≤ 4 → 1 ≤ v_columnsOf.toInt → v_columnsOf.toInt ≤ 8 → -1 ≤ v_textMany.toInt → v_textMany.toInt ≤ 120 → 0 ≤ v_bestMany.toInt → v_bestMany.toInt ≤ 3 → v_limit.length = 1 → v_shapeRows.length = 6 → v_shapeColumns.length = 6 → v_row.length = 192 → v_column.length = 192 → v_below.length = 192 → v_face.length = 192 → v_worn.length = 384 → v_lastBend.length = 384 → v_tape.length = 120 → v_text.length = 120 → v_names.length = 6 → v_bends.length = 64 → v_high.length = 32 → v_to.length = 32 → v_pileSize.length = 64 → v_way1.length = 3 → v_bestWay.length = 3 → 0 ≤ x1.toInt → x1.toInt ≤ 3 → fr u_row v_row A B9 → fr u_col v_column A B9 → fr u_sR v_shapeRows a9 b9 → fr u_sC v_shapeColumns a9 b9 → A ≤ 32 * x1.toInt + 64 → 160 ≤ B9 → a9 ≤ x1.toInt + 2 → 5 ≤ b9 → lvI v_rowsOf v_columnsOf v_shapeRows v_shapeColumns v_row v_column (x1.toInt + 1) → (0 : Int) ≤ x1.toInt → wp (fX9_goesDeeper N 5 x1 x2 x3 v_rowsOf v_columnsOf v_textMany v_base v_at v_ends v_fault v_opened v_bentMany v_bentWrong v_moreWorn v_wishedField v_isFound v_bestWrong v_bestWorn v_bestMany v_limit v_shapeRows v_shapeColumns v_row v_column v_below v_face v_worn v_lastBend v_tape v_text v_names v_bends v_high v_to v_pileSize v_way1 v_bestWay) (cu27 (fun (wv_base : Int32) (wv_at : Int32) (wv_ends : Int32) (wv_fault : Int32) (wv_opened : Int32) (wv_bentMany : Int32) (wv_bentWrong : Int32) (wv_moreWorn : Int32) (wv_isFound : Bool) (wv_bestWrong : Int32) (wv_bestWorn : Int32) (wv_bestMany : Int32) (wv_shapeRows : List Int32) (wv_shapeColumns : List Int32) (wv_row : List Int32) (wv_column : List Int32) (wv_below : List Int32) (wv_face : List Int32) (wv_worn : List Int32) (wv_lastBend : List Int32) (wv_names : List Int32) (wv_bends : List Int32) (wv_high : List Int32) (wv_to : List Int32) (wv_pileSize : List Int32) (wv_way1 : List Int32) (wv_bestWay : List Int32) => 0 ≤ wv_bestMany.toInt ∧ wv_bestMany.toInt ≤ 3 ∧ wv_shapeRows.length = 6 ∧ wv_shapeColumns.length = 6 ∧ wv_row.length = 192 ∧ wv_column.length = 192 ∧ wv_below.length = 192 ∧ wv_face.length = 192 ∧ wv_worn.length = 384 ∧ wv_lastBend.length = 384 ∧ wv_names.length = 6 ∧ wv_bends.length = 64 ∧ wv_high.length = 32 ∧ wv_to.length = 32 ∧ wv_pileSize.length = 64 ∧ wv_way1.length = 3 ∧ wv_bestWay.length = 3 ∧ fr u_row wv_row A B9 ∧ fr u_col wv_column A B9 ∧ fr u_sR wv_shapeRows a9 b9 ∧ fr u_sC wv_shapeColumns a9 b9)) := fun u_row u_col u_sR u_sC A B9 a9 b9 x1 x2 x3 v_rowsOf v_columnsOf v_textMany v_base v_at v_ends v_fault v_opened v_bentMany v_bentWrong v_moreWorn v_wishedField v_isFound v_bestWrong v_bestWorn v_bestMany v_limit v_shapeRows v_shapeColumns v_row v_column v_below v_face v_worn v_lastBend v_tape v_text v_names v_bends v_high v_to v_pileSize v_way1 v_bestWay h_0 h_1 h_2 h_3 h_4 h_5 h_6 h_7 h_8 h_9 h_10 h_11 h_12 h_13 h_14 h_15 h_16 h_17 h_18 h_19 h_20 h_21 h_22 h_23 h_24 h_25 h_26 h_27 h_28 h_29 h_30 h_31 h_32 h_33 h_34 h_35 h_36 _ => sf_X9_goesDeeper hN 5 u_row u_col u_sR u_sC A B9 a9 b9 x1 x2 x3 v_rowsOf v_columnsOf v_textMany v_base v_at v_ends v_fault v_opened v_bentMany v_bentWrong v_moreWorn v_wishedField v_isFound v_bestWrong v_bestWorn v_bestMany v_limit v_shapeRows v_shapeColumns v_row v_column v_below v_face v_worn v_lastBend v_tape v_text v_names v_bends v_high v_to v_pileSize v_way1 v_bestWay h_0 h_1 h_2 h_3 h_4 h_5 h_6 h_7 h_8 h_9 h_10 h_11 h_12 h_13 h_14 h_15 h_16 h_17 h_18 h_19 h_20 h_21 h_22 h_23 h_24 h_25 h_26 h_27 h_28 h_29 h_30 h_31 h_32 h_33 h_34 h_35 h_36 (by omega)
set_option maxHeartbeats 4000000 in
set_option maxRecDepth 20000 in
theorem sf_X9_goesDeeper_at {N : Nat} {M : Nat} (hN : 700 ≤ N) {u_row : List Int32} {u_col : List Int32} {u_sR : List Int32} {u_sC : List Int32} {A : Int} {B9 : Int} {a9 : Int} {b9 : Int} {x1 : Int32} {x2 : Int32} {x3 : Int32} {v_rowsOf : Int32} {v_columnsOf : Int32} {v_textMany : Int32} {v_base : Int32} {v_at : Int32} {v_ends : Int32} {v_fault : Int32} {v_opened : Int32} {v_bentMany : Int32} {v_bentWrong : Int32} {v_moreWorn : Int32} {v_wishedField : Int32} {v_isFound : Bool} {v_bestWrong : Int32} {v_bestWorn : Int32} {v_bestMany : Int32} {v_limit : List Int32} {v_shapeRows : List Int32} {v_shapeColumns : List Int32} {v_row : List Int32} {v_column : List Int32} {v_below : List Int32} {v_face : List Int32} {v_worn : List Int32} {v_lastBend : List Int32} {v_tape : List Int32} {v_text : List Int32} {v_names : List Int32} {v_bends : List Int32} {v_high : List Int32} {v_to : List Int32} {v_pileSize : List Int32} {v_way1 : List Int32} {v_bestWay : List Int32} (h_0 : 1 ≤ v_rowsOf.toInt) (h_1 : v_rowsOf.toInt ≤ 4) (h_2 : 1 ≤ v_columnsOf.toInt) (h_3 : v_columnsOf.toInt ≤ 8) (h_4 : -1 ≤ v_textMany.toInt) (h_5 : v_textMany.toInt ≤ 120) (h_6 : 0 ≤ v_bestMany.toInt) (h_7 : v_bestMany.toInt ≤ 3) (h_8 : v_limit.length = 1) (h_9 : v_shapeRows.length = 6) (h_10 : v_shapeColumns.length = 6) (h_11 : v_row.length = 192) (h_12 : v_column.length = 192) (h_13 : v_below.length = 192) (h_14 : v_face.length = 192) (h_15 : v_worn.length = 384) (h_16 : v_lastBend.length = 384) (h_17 : v_tape.length = 120) (h_18 : v_text.length = 120) (h_19 : v_names.length = 6) (h_20 : v_bends.length = 64) (h_21 : v_high.length = 32) (h_22 : v_to.length = 32) (h_23 : v_pileSize.length = 64) (h_24 : v_way1.length = 3) (h_25 : v_bestWay.length = 3) (h_26 : 0 ≤ x1.toInt) (h_27 : x1.toInt ≤ 3) (h_28 : fr u_row v_row A B9) (h_29 : fr u_col v_column A B9) (h_30 : fr u_sR v_shapeRows a9 b9) (h_31 : fr u_sC v_shapeColumns a9 b9) (h_32 : A ≤ 32 * x1.toInt + 64) (h_33 : 160 ≤ B9) (h_34 : a9 ≤ x1.toInt + 2) (h_35 : 5 ≤ b9) (h_36 : lvI v_rowsOf v_columnsOf v_shapeRows v_shapeColumns v_row v_column (x1.toInt + 1)) (hK : 4 - (M : Int) ≤ x1.toInt) : wp (fX9_goesDeeper N M x1 x2 x3 v_rowsOf v_columnsOf v_textMany v_base v_at v_ends v_fault v_opened v_bentMany v_bentWrong v_moreWorn v_wishedField v_isFound v_bestWrong v_bestWorn v_bestMany v_limit v_shapeRows v_shapeColumns v_row v_column v_below v_face v_worn v_lastBend v_tape v_text v_names v_bends v_high v_to v_pileSize v_way1 v_bestWay) (cu27 (fun (wv_base : Int32) (wv_at : Int32) (wv_ends : Int32) (wv_fault : Int32) (wv_opened : Int32) (wv_bentMany : Int32) (wv_bentWrong : Int32) (wv_moreWorn : Int32) (wv_isFound : Bool) (wv_bestWrong : Int32) (wv_bestWorn : Int32) (wv_bestMany : Int32) (wv_shapeRows : List Int32) (wv_shapeColumns : List Int32) (wv_row : List Int32) (wv_column : List Int32) (wv_below : List Int32) (wv_face : List Int32) (wv_worn : List Int32) (wv_lastBend : List Int32) (wv_names : List Int32) (wv_bends : List Int32) (wv_high : List Int32) (wv_to : List Int32) (wv_pileSize : List Int32) (wv_way1 : List Int32) (wv_bestWay : List Int32) => 0 ≤ wv_bestMany.toInt ∧ wv_bestMany.toInt ≤ 3 ∧ wv_shapeRows.length = 6 ∧ wv_shapeColumns.length = 6 ∧ wv_row.length = 192 ∧ wv_column.length = 192 ∧ wv_below.length = 192 ∧ wv_face.length = 192 ∧ wv_worn.length = 384 ∧ wv_lastBend.length = 384 ∧ wv_names.length = 6 ∧ wv_bends.length = 64 ∧ wv_high.length = 32 ∧ wv_to.length = 32 ∧ wv_pileSize.length = 64 ∧ wv_way1.length = 3 ∧ wv_bestWay.length = 3 ∧ fr u_row wv_row A B9 ∧ fr u_col wv_column A B9 ∧ fr u_sR wv_shapeRows a9 b9 ∧ fr u_sC wv_shapeColumns a9 b9)) := sf_X9_goesDeeper hN M u_row u_col u_sR u_sC A B9 a9 b9 x1 x2 x3 v_rowsOf v_columnsOf v_textMany v_base v_at v_ends v_fault v_opened v_bentMany v_bentWrong v_moreWorn v_wishedField v_isFound v_bestWrong v_bestWorn v_bestMany v_limit v_shapeRows v_shapeColumns v_row v_column v_below v_face v_worn v_lastBend v_tape v_text v_names v_bends v_high v_to v_pileSize v_way1 v_bestWay h_0 h_1 h_2 h_3 h_4 h_5 h_6 h_7 h_8 h_9 h_10 h_11 h_12 h_13 h_14 h_15 h_16 h_17 h_18 h_19 h_20 h_21 h_22 h_23 h_24 h_25 h_26 h_27 h_28 h_29 h_30 h_31 h_32 h_33 h_34 h_35 h_36 hK
end
section
/-! safe -/
theorem uf_X9_searches (N : Nat) (x1 : Int32) (v_rowsOf : Int32) (v_columnsOf : Int32) (v_textMany : Int32) (v_base : Int32) (v_at : Int32) (v_ends : Int32) (v_fault : Int32) (v_opened : Int32) (v_bentMany : Int32) (v_bentWrong : Int32) (v_moreWorn : Int32) (v_wishedField : Int32) (v_isFound : Bool) (v_bestWrong : Int32) (v_bestWorn : Int32) (v_bestMany : Int32) (v_limit : List Int32) (v_shapeRows : List Int32) (v_shapeColumns : List Int32) (v_row : List Int32) (v_column : List Int32) (v_below : List Int32) (v_face : List Int32) (v_worn : List Int32) (v_lastBend : List Int32) (v_tape : List Int32) (v_text : List Int32) (v_names : List Int32) (v_bends : List Int32) (v_high : List Int32) (v_to : List Int32) (v_pileSize : List Int32) (v_way1 : List Int32) (v_bestWay : List Int32) : fX9_searches N x1 v_rowsOf v_columnsOf v_textMany v_base v_at v_ends v_fault v_opened v_bentMany v_bentWrong v_moreWorn v_wishedField v_isFound v_bestWrong v_bestWorn v_bestMany v_limit v_shapeRows v_shapeColumns v_row v_column v_below v_face v_worn v_lastBend v_tape v_text v_names v_bends v_high v_to v_pileSize v_way1 v_bestWay = mm_bd8 (fX9_startsAt N (1 : Int32) v_rowsOf v_columnsOf v_shapeRows v_shapeColumns v_row v_column v_below v_face v_worn v_lastBend) (fun (w_1 : List Int32) (w_2 : List Int32) (w_3 : List Int32) (w_4 : List Int32) (w_5 : List Int32) (w_6 : List Int32) (w_7 : List Int32) (w_8 : List Int32) =>
    mm_bd27 (fX9_goesDeeper N 5 (0 : Int32) (0 : Int32) (0 : Int32) v_rowsOf v_columnsOf v_textMany v_base v_at v_ends v_fault v_opened v_bentMany v_bentWrong v_moreWorn x1 false (0 : Int32) (0 : Int32) (0 : Int32) v_limit w_1 w_2 w_3 w_4 w_5 w_6 w_7 w_8 v_tape v_text v_names v_bends v_high v_to v_pileSize v_way1 v_bestWay) (fun (w_10 : Int32) (w_11 : Int32) (w_12 : Int32) (w_13 : Int32) (w_14 : Int32) (w_15 : Int32) (w_16 : Int32) (w_17 : Int32) (w_18 : Bool) (w_19 : Int32) (w_20 : Int32) (w_21 : Int32) (w_22 : List Int32) (w_23 : List Int32) (w_24 : List Int32) (w_25 : List Int32) (w_26 : List Int32) (w_27 : List Int32) (w_28 : List Int32) (w_29 : List Int32) (w_30 : List Int32) (w_31 : List Int32) (w_32 : List Int32) (w_33 : List Int32) (w_34 : List Int32) (w_35 : List Int32) (w_36 : List Int32) =>
    some (w_10, w_11, w_12, w_13, w_14, w_15, w_16, w_17, x1, w_18, w_19, w_20, w_21, w_22, w_23, w_24, w_25, w_26, w_27, w_28, w_29, w_30, w_31, w_32, w_33, w_34, w_35, w_36))) := rfl

set_option maxHeartbeats 4000000 in
set_option maxRecDepth 20000 in
theorem sf_X9_searches {N : Nat} (hN : 700 ≤ N) {u_row : List Int32} {u_col : List Int32} {u_sR : List Int32} {u_sC : List Int32} {A : Int} {B9 : Int} {a9 : Int} {b9 : Int} {x1 : Int32} {v_rowsOf : Int32} {v_columnsOf : Int32} {v_textMany : Int32} {v_base : Int32} {v_at : Int32} {v_ends : Int32} {v_fault : Int32} {v_opened : Int32} {v_bentMany : Int32} {v_bentWrong : Int32} {v_moreWorn : Int32} {v_wishedField : Int32} {v_isFound : Bool} {v_bestWrong : Int32} {v_bestWorn : Int32} {v_bestMany : Int32} {v_limit : List Int32} {v_shapeRows : List Int32} {v_shapeColumns : List Int32} {v_row : List Int32} {v_column : List Int32} {v_below : List Int32} {v_face : List Int32} {v_worn : List Int32} {v_lastBend : List Int32} {v_tape : List Int32} {v_text : List Int32} {v_names : List Int32} {v_bends : List Int32} {v_high : List Int32} {v_to : List Int32} {v_pileSize : List Int32} {v_way1 : List Int32} {v_bestWay : List Int32} (h_0 : 1 ≤ v_rowsOf.toInt) (h_1 : v_rowsOf.toInt ≤ 4) (h_2 : 1 ≤ v_columnsOf.toInt) (h_3 : v_columnsOf.toInt ≤ 8) (h_4 : -1 ≤ v_textMany.toInt) (h_5 : v_textMany.toInt ≤ 120) (h_6 : 0 ≤ v_bestMany.toInt) (h_7 : v_bestMany.toInt ≤ 3) (h_8 : v_limit.length = 1) (h_9 : v_shapeRows.length = 6) (h_10 : v_shapeColumns.length = 6) (h_11 : v_row.length = 192) (h_12 : v_column.length = 192) (h_13 : v_below.length = 192) (h_14 : v_face.length = 192) (h_15 : v_worn.length = 384) (h_16 : v_lastBend.length = 384) (h_17 : v_tape.length = 120) (h_18 : v_text.length = 120) (h_19 : v_names.length = 6) (h_20 : v_bends.length = 64) (h_21 : v_high.length = 32) (h_22 : v_to.length = 32) (h_23 : v_pileSize.length = 64) (h_24 : v_way1.length = 3) (h_25 : v_bestWay.length = 3) (h_26 : fr u_row v_row A B9) (h_27 : fr u_col v_column A B9) (h_28 : fr u_sR v_shapeRows a9 b9) (h_29 : fr u_sC v_shapeColumns a9 b9) (h_30 : A ≤ 32) (h_31 : 160 ≤ B9) (h_32 : a9 ≤ 1) (h_33 : 5 ≤ b9) : wp (fX9_searches N x1 v_rowsOf v_columnsOf v_textMany v_base v_at v_ends v_fault v_opened v_bentMany v_bentWrong v_moreWorn v_wishedField v_isFound v_bestWrong v_bestWorn v_bestMany v_limit v_shapeRows v_shapeColumns v_row v_column v_below v_face v_worn v_lastBend v_tape v_text v_names v_bends v_high v_to v_pileSize v_way1 v_bestWay) (cu28 (fun (wv_base : Int32) (wv_at : Int32) (wv_ends : Int32) (wv_fault : Int32) (wv_opened : Int32) (wv_bentMany : Int32) (wv_bentWrong : Int32) (wv_moreWorn : Int32) (wv_wishedField : Int32) (wv_isFound : Bool) (wv_bestWrong : Int32) (wv_bestWorn : Int32) (wv_bestMany : Int32) (wv_shapeRows : List Int32) (wv_shapeColumns : List Int32) (wv_row : List Int32) (wv_column : List Int32) (wv_below : List Int32) (wv_face : List Int32) (wv_worn : List Int32) (wv_lastBend : List Int32) (wv_names : List Int32) (wv_bends : List Int32) (wv_high : List Int32) (wv_to : List Int32) (wv_pileSize : List Int32) (wv_way1 : List Int32) (wv_bestWay : List Int32) => 0 ≤ wv_bestMany.toInt ∧ wv_bestMany.toInt ≤ 3 ∧ wv_shapeRows.length = 6 ∧ wv_shapeColumns.length = 6 ∧ wv_row.length = 192 ∧ wv_column.length = 192 ∧ wv_below.length = 192 ∧ wv_face.length = 192 ∧ wv_worn.length = 384 ∧ wv_lastBend.length = 384 ∧ wv_names.length = 6 ∧ wv_bends.length = 64 ∧ wv_high.length = 32 ∧ wv_to.length = 32 ∧ wv_pileSize.length = 64 ∧ wv_way1.length = 3 ∧ wv_bestWay.length = 3 ∧ fr u_row wv_row A B9 ∧ fr u_col wv_column A B9 ∧ fr u_sR wv_shapeRows a9 b9 ∧ fr u_sC wv_shapeColumns a9 b9)) := by
  have n1z : (1 : Int32).toInt = 1 := by decide
  refine wp_of (uf_X9_searches _ _ _ _ _ _ _ _ _ _ _ _ _ _ _ _ _ _ _ _ _ _ _ _ _ _ _ _ _ _ _ _ _ _ _ _) ?_
  have n_1 : (1 : Int32).toInt = 1 := by decide
  refine wp_bd8 (sf_X9_startsAt (u_row := u_row) (u_col := u_col) (u_sR := u_sR) (u_sC := u_sC) (A := A) (B9 := B9) (a9 := a9) (b9 := b9) hN h_0 h_1 h_2 h_3 h_9 h_10 h_11 h_12 h_13 h_14 h_15 h_16 (by omega) (by omega) h_26 h_27 h_28 h_29 (by omega) (by omega) (by omega) (by omega)) (fun w_1 w_2 w_3 w_4 w_5 w_6 w_7 w_8 ⟨q_2, q_3, q_4, q_5, q_6, q_7, q_8, q_9, q_10, q_11, q_12, q_13, q_14⟩ => ?_)
  have n_15 : (0 : Int32).toInt = 0 := by decide
  refine wp_bd27 (sf_X9_goesDeeper_at (M := 5) (u_row := u_row) (u_col := u_col) (u_sR := u_sR) (u_sC := u_sC) (A := A) (B9 := B9) (a9 := a9) (b9 := b9) hN h_0 h_1 h_2 h_3 h_4 h_5 (by omega) (by omega) h_8 q_2 q_3 q_4 q_5 q_6 q_7 q_8 q_9 h_17 h_18 h_19 h_20 h_21 h_22 h_23 h_24 h_25 (by omega) (by omega) q_10 q_11 q_12 q_13 (by omega) h_31 (by omega) h_33 (by first | assumption | exact lvI_of q_14 (by omega)) (by omega)) (fun w_10 w_11 w_12 w_13 w_14 w_15 w_16 w_17 w_18 w_19 w_20 w_21 w_22 w_23 w_24 w_25 w_26 w_27 w_28 w_29 w_30 w_31 w_32 w_33 w_34 w_35 w_36 ⟨q_16, q_17, q_18, q_19, q_20, q_21, q_22, q_23, q_24, q_25, q_26, q_27, q_28, q_29, q_30, q_31, q_32, q_33, q_34, q_35, q_36⟩ => ?_)
  exact wp_so28 ⟨q_16, q_17, q_18, q_19, q_20, q_21, q_22, q_23, q_24, q_25, q_26, q_27, q_28, q_29, q_30, q_31, q_32, q_33, q_34, q_35, q_36⟩

theorem uf_X9_wished (N : Nat) (x1 : Int32) (x2 : Int32) (v_rowsOf : Int32) (v_columnsOf : Int32) (v_textMany : Int32) (v_base : Int32) (v_at : Int32) (v_ends : Int32) (v_fault : Int32) (v_opened : Int32) (v_bentMany : Int32) (v_bentWrong : Int32) (v_moreWorn : Int32) (v_wishedField : Int32) (v_isFound : Bool) (v_bestWrong : Int32) (v_bestWorn : Int32) (v_bestMany : Int32) (v_limit : List Int32) (v_shapeRows : List Int32) (v_shapeColumns : List Int32) (v_row : List Int32) (v_column : List Int32) (v_below : List Int32) (v_face : List Int32) (v_worn : List Int32) (v_lastBend : List Int32) (v_tape : List Int32) (v_text : List Int32) (v_names : List Int32) (v_bends : List Int32) (v_high : List Int32) (v_to : List Int32) (v_pileSize : List Int32) (v_way1 : List Int32) (v_bestWay : List Int32) : fX9_wished N x1 x2 v_rowsOf v_columnsOf v_textMany v_base v_at v_ends v_fault v_opened v_bentMany v_bentWrong v_moreWorn v_wishedField v_isFound v_bestWrong v_bestWorn v_bestMany v_limit v_shapeRows v_shapeColumns v_row v_column v_below v_face v_worn v_lastBend v_tape v_text v_names v_bends v_high v_to v_pileSize v_way1 v_bestWay = mm_bd1 (fX9_isField N x1 v_rowsOf v_columnsOf) (fun (r_1 : Bool) =>
    if r_1 = false then
    (some ((-1 : Int32), v_base, v_at, v_ends, v_fault, v_opened, v_bentMany, v_bentWrong, v_moreWorn, v_wishedField, v_isFound, v_bestWrong, v_bestWorn, v_bestMany, v_shapeRows, v_shapeColumns, v_row, v_column, v_below, v_face, v_worn, v_lastBend, v_names, v_bends, v_high, v_to, v_pileSize, v_way1, v_bestWay))
    else (if (-1 : Int32) ≤ x2 then
    (mm_bd1 (fX9_fields N v_rowsOf v_columnsOf) (fun (r_5 : Int32) =>
    if r_5 ≤ (16 : Int32) then
    (mm_bd28 (fX9_searches N x1 v_rowsOf v_columnsOf v_textMany v_base v_at v_ends v_fault v_opened v_bentMany v_bentWrong v_moreWorn v_wishedField v_isFound v_bestWrong v_bestWorn v_bestMany v_limit v_shapeRows v_shapeColumns v_row v_column v_below v_face v_worn v_lastBend v_tape v_text v_names v_bends v_high v_to v_pileSize v_way1 v_bestWay) (fun (w_8 : Int32) (w_9 : Int32) (w_10 : Int32) (w_11 : Int32) (w_12 : Int32) (w_13 : Int32) (w_14 : Int32) (w_15 : Int32) (w_16 : Int32) (w_17 : Bool) (w_18 : Int32) (w_19 : Int32) (w_20 : Int32) (w_21 : List Int32) (w_22 : List Int32) (w_23 : List Int32) (w_24 : List Int32) (w_25 : List Int32) (w_26 : List Int32) (w_27 : List Int32) (w_28 : List Int32) (w_29 : List Int32) (w_30 : List Int32) (w_31 : List Int32) (w_32 : List Int32) (w_33 : List Int32) (w_34 : List Int32) (w_35 : List Int32) =>
    if w_17 = false then
    (some ((-2 : Int32), w_8, w_9, w_10, w_11, w_12, w_13, w_14, w_15, w_16, w_17, w_18, w_19, w_20, w_21, w_22, w_23, w_24, w_25, w_26, w_27, w_28, w_29, w_30, w_31, w_32, w_33, w_34, w_35))
    else (if x2 = (-1 : Int32) then
    (some (w_20, w_8, w_9, w_10, w_11, w_12, w_13, w_14, w_15, w_16, w_17, w_18, w_19, w_20, w_21, w_22, w_23, w_24, w_25, w_26, w_27, w_28, w_29, w_30, w_31, w_32, w_33, w_34, w_35))
    else (if w_20 ≤ x2 then
    (some ((-1 : Int32), w_8, w_9, w_10, w_11, w_12, w_13, w_14, w_15, w_16, w_17, w_18, w_19, w_20, w_21, w_22, w_23, w_24, w_25, w_26, w_27, w_28, w_29, w_30, w_31, w_32, w_33, w_34, w_35))
    else (mm_ck (mm_inb x2 w_35.length) (some ((mm_ig w_35 x2), w_8, w_9, w_10, w_11, w_12, w_13, w_14, w_15, w_16, w_17, w_18, w_19, w_20, w_21, w_22, w_23, w_24, w_25, w_26, w_27, w_28, w_29, w_30, w_31, w_32, w_33, w_34, w_35)))))))
    else (some ((-5 : Int32), v_base, v_at, v_ends, v_fault, v_opened, v_bentMany, v_bentWrong, v_moreWorn, v_wishedField, v_isFound, v_bestWrong, v_bestWorn, v_bestMany, v_shapeRows, v_shapeColumns, v_row, v_column, v_below, v_face, v_worn, v_lastBend, v_names, v_bends, v_high, v_to, v_pileSize, v_way1, v_bestWay))))
    else (some ((-1 : Int32), v_base, v_at, v_ends, v_fault, v_opened, v_bentMany, v_bentWrong, v_moreWorn, v_wishedField, v_isFound, v_bestWrong, v_bestWorn, v_bestMany, v_shapeRows, v_shapeColumns, v_row, v_column, v_below, v_face, v_worn, v_lastBend, v_names, v_bends, v_high, v_to, v_pileSize, v_way1, v_bestWay)))) := rfl

set_option maxHeartbeats 4000000 in
set_option maxRecDepth 20000 in
theorem sf_X9_wished {N : Nat} (hN : 700 ≤ N) {u_row : List Int32} {u_col : List Int32} {u_sR : List Int32} {u_sC : List Int32} {A : Int} {B9 : Int} {a9 : Int} {b9 : Int} {x1 : Int32} {x2 : Int32} {v_rowsOf : Int32} {v_columnsOf : Int32} {v_textMany : Int32} {v_base : Int32} {v_at : Int32} {v_ends : Int32} {v_fault : Int32} {v_opened : Int32} {v_bentMany : Int32} {v_bentWrong : Int32} {v_moreWorn : Int32} {v_wishedField : Int32} {v_isFound : Bool} {v_bestWrong : Int32} {v_bestWorn : Int32} {v_bestMany : Int32} {v_limit : List Int32} {v_shapeRows : List Int32} {v_shapeColumns : List Int32} {v_row : List Int32} {v_column : List Int32} {v_below : List Int32} {v_face : List Int32} {v_worn : List Int32} {v_lastBend : List Int32} {v_tape : List Int32} {v_text : List Int32} {v_names : List Int32} {v_bends : List Int32} {v_high : List Int32} {v_to : List Int32} {v_pileSize : List Int32} {v_way1 : List Int32} {v_bestWay : List Int32} (h_0 : 1 ≤ v_rowsOf.toInt) (h_1 : v_rowsOf.toInt ≤ 4) (h_2 : 1 ≤ v_columnsOf.toInt) (h_3 : v_columnsOf.toInt ≤ 8) (h_4 : -1 ≤ v_textMany.toInt) (h_5 : v_textMany.toInt ≤ 120) (h_6 : 0 ≤ v_bestMany.toInt) (h_7 : v_bestMany.toInt ≤ 3) (h_8 : v_limit.length = 1) (h_9 : v_shapeRows.length = 6) (h_10 : v_shapeColumns.length = 6) (h_11 : v_row.length = 192) (h_12 : v_column.length = 192) (h_13 : v_below.length = 192) (h_14 : v_face.length = 192) (h_15 : v_worn.length = 384) (h_16 : v_lastBend.length = 384) (h_17 : v_tape.length = 120) (h_18 : v_text.length = 120) (h_19 : v_names.length = 6) (h_20 : v_bends.length = 64) (h_21 : v_high.length = 32) (h_22 : v_to.length = 32) (h_23 : v_pileSize.length = 64) (h_24 : v_way1.length = 3) (h_25 : v_bestWay.length = 3) (h_26 : fr u_row v_row A B9) (h_27 : fr u_col v_column A B9) (h_28 : fr u_sR v_shapeRows a9 b9) (h_29 : fr u_sC v_shapeColumns a9 b9) (h_30 : A ≤ 32) (h_31 : 160 ≤ B9) (h_32 : a9 ≤ 1) (h_33 : 5 ≤ b9) : wp (fX9_wished N x1 x2 v_rowsOf v_columnsOf v_textMany v_base v_at v_ends v_fault v_opened v_bentMany v_bentWrong v_moreWorn v_wishedField v_isFound v_bestWrong v_bestWorn v_bestMany v_limit v_shapeRows v_shapeColumns v_row v_column v_below v_face v_worn v_lastBend v_tape v_text v_names v_bends v_high v_to v_pileSize v_way1 v_bestWay) (cu29 (fun (r : Int32) (wv_base : Int32) (wv_at : Int32) (wv_ends : Int32) (wv_fault : Int32) (wv_opened : Int32) (wv_bentMany : Int32) (wv_bentWrong : Int32) (wv_moreWorn : Int32) (wv_wishedField : Int32) (wv_isFound : Bool) (wv_bestWrong : Int32) (wv_bestWorn : Int32) (wv_bestMany : Int32) (wv_shapeRows : List Int32) (wv_shapeColumns : List Int32) (wv_row : List Int32) (wv_column : List Int32) (wv_below : List Int32) (wv_face : List Int32) (wv_worn : List Int32) (wv_lastBend : List Int32) (wv_names : List Int32) (wv_bends : List Int32) (wv_high : List Int32) (wv_to : List Int32) (wv_pileSize : List Int32) (wv_way1 : List Int32) (wv_bestWay : List Int32) => 0 ≤ wv_bestMany.toInt ∧ wv_bestMany.toInt ≤ 3 ∧ wv_shapeRows.length = 6 ∧ wv_shapeColumns.length = 6 ∧ wv_row.length = 192 ∧ wv_column.length = 192 ∧ wv_below.length = 192 ∧ wv_face.length = 192 ∧ wv_worn.length = 384 ∧ wv_lastBend.length = 384 ∧ wv_names.length = 6 ∧ wv_bends.length = 64 ∧ wv_high.length = 32 ∧ wv_to.length = 32 ∧ wv_pileSize.length = 64 ∧ wv_way1.length = 3 ∧ wv_bestWay.length = 3 ∧ fr u_row wv_row A B9 ∧ fr u_col wv_column A B9 ∧ fr u_sR wv_shapeRows a9 b9 ∧ fr u_sC wv_shapeColumns a9 b9)) := by
  have m3 := (i_fl (a := v_rowsOf) (b := v_columnsOf) (by omega) (by omega) (by omega) (by omega)).2
  refine wp_of (uf_X9_wished _ _ _ _ _ _ _ _ _ _ _ _ _ _ _ _ _ _ _ _ _ _ _ _ _ _ _ _ _ _ _ _ _ _ _ _ _) ?_
  refine wp_bd1 (sf_X9_isField hN h_0 h_1 h_2 h_3) (fun r_1 q_1 => ?_)
  rcases q_1 with ⟨rfl, q_1⟩ | ⟨rfl, q_1⟩
  ·
    refine wp_ifn (by decide) ?_
    have n_3 : (-1 : Int32).toInt = -1 := by decide
    refine wp_if (fun c_2 => ?_) (fun c_2 => ?_)
    ·
      have dc_2 := i_le c_2
      refine wp_bd1 (sf_X9_fields hN h_0 h_1 h_2 h_3) (fun r_5 ⟨q_4, q_5, q_6⟩ => ?_)
      have n_8 : (16 : Int32).toInt = 16 := by decide
      refine wp_if (fun c_7 => ?_) (fun c_7 => ?_)
      ·
        have dc_7 := i_le c_7
        refine wp_bd28 (sf_X9_searches (u_row := u_row) (u_col := u_col) (u_sR := u_sR) (u_sC := u_sC) (A := A) (B9 := B9) (a9 := a9) (b9 := b9) hN h_0 h_1 h_2 h_3 h_4 h_5 h_6 h_7 h_8 h_9 h_10 h_11 h_12 h_13 h_14 h_15 h_16 h_17 h_18 h_19 h_20 h_21 h_22 h_23 h_24 h_25 h_26 h_27 h_28 h_29 h_30 h_31 h_32 h_33) (fun w_8 w_9 w_10 w_11 w_12 w_13 w_14 w_15 w_16 w_17 w_18 w_19 w_20 w_21 w_22 w_23 w_24 w_25 w_26 w_27 w_28 w_29 w_30 w_31 w_32 w_33 w_34 w_35 ⟨q_9, q_10, q_11, q_12, q_13, q_14, q_15, q_16, q_17, q_18, q_19, q_20, q_21, q_22, q_23, q_24, q_25, q_26, q_27, q_28, q_29⟩ => ?_)
        refine wp_if (fun c_30 => ?_) (fun c_30 => ?_)
        ·
          exact wp_so29 ⟨q_9, q_10, q_11, q_12, q_13, q_14, q_15, q_16, q_17, q_18, q_19, q_20, q_21, q_22, q_23, q_24, q_25, q_26, q_27, q_28, q_29⟩
        ·
          refine wp_if (fun c_31 => ?_) (fun c_31 => ?_)
          ·
            have dc_31 := i_eq c_31
            exact wp_so29 ⟨q_9, q_10, q_11, q_12, q_13, q_14, q_15, q_16, q_17, q_18, q_19, q_20, q_21, q_22, q_23, q_24, q_25, q_26, q_27, q_28, q_29⟩
          ·
            have dc_31 := i_ne c_31
            refine wp_if (fun c_32 => ?_) (fun c_32 => ?_)
            ·
              have dc_32 := i_le c_32
              exact wp_so29 ⟨q_9, q_10, q_11, q_12, q_13, q_14, q_15, q_16, q_17, q_18, q_19, q_20, q_21, q_22, q_23, q_24, q_25, q_26, q_27, q_28, q_29⟩
            ·
              have dc_32 := i_nle c_32
              refine wp_ck (i_inb (by omega) (by omega)) ?_
              exact wp_so29 ⟨q_9, q_10, q_11, q_12, q_13, q_14, q_15, q_16, q_17, q_18, q_19, q_20, q_21, q_22, q_23, q_24, q_25, q_26, q_27, q_28, q_29⟩
      ·
        have dc_7 := i_nle c_7
        exact wp_so29 ⟨h_6, h_7, h_9, h_10, h_11, h_12, h_13, h_14, h_15, h_16, h_19, h_20, h_21, h_22, h_23, h_24, h_25, h_26, h_27, h_28, h_29⟩
    ·
      have dc_2 := i_nle c_2
      exact wp_so29 ⟨h_6, h_7, h_9, h_10, h_11, h_12, h_13, h_14, h_15, h_16, h_19, h_20, h_21, h_22, h_23, h_24, h_25, h_26, h_27, h_28, h_29⟩
  ·
    refine wp_ifp (by decide) ?_
    exact wp_so29 ⟨h_6, h_7, h_9, h_10, h_11, h_12, h_13, h_14, h_15, h_16, h_19, h_20, h_21, h_22, h_23, h_24, h_25, h_26, h_27, h_28, h_29⟩

theorem uf_X9_right (N : Nat) (x1 : Int32) (v_rowsOf : Int32) (v_columnsOf : Int32) (v_textMany : Int32) (v_base : Int32) (v_at : Int32) (v_ends : Int32) (v_fault : Int32) (v_opened : Int32) (v_bentMany : Int32) (v_bentWrong : Int32) (v_moreWorn : Int32) (v_wishedField : Int32) (v_isFound : Bool) (v_bestWrong : Int32) (v_bestWorn : Int32) (v_bestMany : Int32) (v_limit : List Int32) (v_shapeRows : List Int32) (v_shapeColumns : List Int32) (v_row : List Int32) (v_column : List Int32) (v_below : List Int32) (v_face : List Int32) (v_worn : List Int32) (v_lastBend : List Int32) (v_tape : List Int32) (v_text : List Int32) (v_names : List Int32) (v_bends : List Int32) (v_high : List Int32) (v_to : List Int32) (v_pileSize : List Int32) (v_way1 : List Int32) (v_bestWay : List Int32) : fX9_right N x1 v_rowsOf v_columnsOf v_textMany v_base v_at v_ends v_fault v_opened v_bentMany v_bentWrong v_moreWorn v_wishedField v_isFound v_bestWrong v_bestWorn v_bestMany v_limit v_shapeRows v_shapeColumns v_row v_column v_below v_face v_worn v_lastBend v_tape v_text v_names v_bends v_high v_to v_pileSize v_way1 v_bestWay = if (-3 : Int32) ≤ x1 then
    (mm_bd1 (fX9_fields N v_rowsOf v_columnsOf) (fun (r_2 : Int32) =>
    if r_2 ≤ (16 : Int32) then
    (mm_bd28 (fX9_searches N (-1 : Int32) v_rowsOf v_columnsOf v_textMany v_base v_at v_ends v_fault v_opened v_bentMany v_bentWrong v_moreWorn v_wishedField v_isFound v_bestWrong v_bestWorn v_bestMany v_limit v_shapeRows v_shapeColumns v_row v_column v_below v_face v_worn v_lastBend v_tape v_text v_names v_bends v_high v_to v_pileSize v_way1 v_bestWay) (fun (w_5 : Int32) (w_6 : Int32) (w_7 : Int32) (w_8 : Int32) (w_9 : Int32) (w_10 : Int32) (w_11 : Int32) (w_12 : Int32) (w_13 : Int32) (w_14 : Bool) (w_15 : Int32) (w_16 : Int32) (w_17 : Int32) (w_18 : List Int32) (w_19 : List Int32) (w_20 : List Int32) (w_21 : List Int32) (w_22 : List Int32) (w_23 : List Int32) (w_24 : List Int32) (w_25 : List Int32) (w_26 : List Int32) (w_27 : List Int32) (w_28 : List Int32) (w_29 : List Int32) (w_30 : List Int32) (w_31 : List Int32) (w_32 : List Int32) =>
    if w_14 = false then
    (some ((-2 : Int32), w_5, w_6, w_7, w_8, w_9, w_10, w_11, w_12, w_13, w_14, w_15, w_16, w_17, w_18, w_19, w_20, w_21, w_22, w_23, w_24, w_25, w_26, w_27, w_28, w_29, w_30, w_31, w_32))
    else (if x1 = (-3 : Int32) then
    (some (w_17, w_5, w_6, w_7, w_8, w_9, w_10, w_11, w_12, w_13, w_14, w_15, w_16, w_17, w_18, w_19, w_20, w_21, w_22, w_23, w_24, w_25, w_26, w_27, w_28, w_29, w_30, w_31, w_32))
    else (if x1 = (-2 : Int32) then
    (some (w_16, w_5, w_6, w_7, w_8, w_9, w_10, w_11, w_12, w_13, w_14, w_15, w_16, w_17, w_18, w_19, w_20, w_21, w_22, w_23, w_24, w_25, w_26, w_27, w_28, w_29, w_30, w_31, w_32))
    else (if x1 = (-1 : Int32) then
    (some (w_15, w_5, w_6, w_7, w_8, w_9, w_10, w_11, w_12, w_13, w_14, w_15, w_16, w_17, w_18, w_19, w_20, w_21, w_22, w_23, w_24, w_25, w_26, w_27, w_28, w_29, w_30, w_31, w_32))
    else (if w_17 ≤ x1 then
    (some ((-1 : Int32), w_5, w_6, w_7, w_8, w_9, w_10, w_11, w_12, w_13, w_14, w_15, w_16, w_17, w_18, w_19, w_20, w_21, w_22, w_23, w_24, w_25, w_26, w_27, w_28, w_29, w_30, w_31, w_32))
    else (mm_ck (mm_inb x1 w_32.length) (some ((mm_ig w_32 x1), w_5, w_6, w_7, w_8, w_9, w_10, w_11, w_12, w_13, w_14, w_15, w_16, w_17, w_18, w_19, w_20, w_21, w_22, w_23, w_24, w_25, w_26, w_27, w_28, w_29, w_30, w_31, w_32)))))))))
    else (some ((-5 : Int32), v_base, v_at, v_ends, v_fault, v_opened, v_bentMany, v_bentWrong, v_moreWorn, v_wishedField, v_isFound, v_bestWrong, v_bestWorn, v_bestMany, v_shapeRows, v_shapeColumns, v_row, v_column, v_below, v_face, v_worn, v_lastBend, v_names, v_bends, v_high, v_to, v_pileSize, v_way1, v_bestWay))))
    else (some ((-1 : Int32), v_base, v_at, v_ends, v_fault, v_opened, v_bentMany, v_bentWrong, v_moreWorn, v_wishedField, v_isFound, v_bestWrong, v_bestWorn, v_bestMany, v_shapeRows, v_shapeColumns, v_row, v_column, v_below, v_face, v_worn, v_lastBend, v_names, v_bends, v_high, v_to, v_pileSize, v_way1, v_bestWay)) := rfl

set_option maxHeartbeats 4000000 in
set_option maxRecDepth 20000 in
theorem sf_X9_right {N : Nat} (hN : 700 ≤ N) {u_row : List Int32} {u_col : List Int32} {u_sR : List Int32} {u_sC : List Int32} {A : Int} {B9 : Int} {a9 : Int} {b9 : Int} {x1 : Int32} {v_rowsOf : Int32} {v_columnsOf : Int32} {v_textMany : Int32} {v_base : Int32} {v_at : Int32} {v_ends : Int32} {v_fault : Int32} {v_opened : Int32} {v_bentMany : Int32} {v_bentWrong : Int32} {v_moreWorn : Int32} {v_wishedField : Int32} {v_isFound : Bool} {v_bestWrong : Int32} {v_bestWorn : Int32} {v_bestMany : Int32} {v_limit : List Int32} {v_shapeRows : List Int32} {v_shapeColumns : List Int32} {v_row : List Int32} {v_column : List Int32} {v_below : List Int32} {v_face : List Int32} {v_worn : List Int32} {v_lastBend : List Int32} {v_tape : List Int32} {v_text : List Int32} {v_names : List Int32} {v_bends : List Int32} {v_high : List Int32} {v_to : List Int32} {v_pileSize : List Int32} {v_way1 : List Int32} {v_bestWay : List Int32} (h_0 : 1 ≤ v_rowsOf.toInt) (h_1 : v_rowsOf.toInt ≤ 4) (h_2 : 1 ≤ v_columnsOf.toInt) (h_3 : v_columnsOf.toInt ≤ 8) (h_4 : -1 ≤ v_textMany.toInt) (h_5 : v_textMany.toInt ≤ 120) (h_6 : 0 ≤ v_bestMany.toInt) (h_7 : v_bestMany.toInt ≤ 3) (h_8 : v_limit.length = 1) (h_9 : v_shapeRows.length = 6) (h_10 : v_shapeColumns.length = 6) (h_11 : v_row.length = 192) (h_12 : v_column.length = 192) (h_13 : v_below.length = 192) (h_14 : v_face.length = 192) (h_15 : v_worn.length = 384) (h_16 : v_lastBend.length = 384) (h_17 : v_tape.length = 120) (h_18 : v_text.length = 120) (h_19 : v_names.length = 6) (h_20 : v_bends.length = 64) (h_21 : v_high.length = 32) (h_22 : v_to.length = 32) (h_23 : v_pileSize.length = 64) (h_24 : v_way1.length = 3) (h_25 : v_bestWay.length = 3) (h_26 : fr u_row v_row A B9) (h_27 : fr u_col v_column A B9) (h_28 : fr u_sR v_shapeRows a9 b9) (h_29 : fr u_sC v_shapeColumns a9 b9) (h_30 : A ≤ 32) (h_31 : 160 ≤ B9) (h_32 : a9 ≤ 1) (h_33 : 5 ≤ b9) : wp (fX9_right N x1 v_rowsOf v_columnsOf v_textMany v_base v_at v_ends v_fault v_opened v_bentMany v_bentWrong v_moreWorn v_wishedField v_isFound v_bestWrong v_bestWorn v_bestMany v_limit v_shapeRows v_shapeColumns v_row v_column v_below v_face v_worn v_lastBend v_tape v_text v_names v_bends v_high v_to v_pileSize v_way1 v_bestWay) (cu29 (fun (r : Int32) (wv_base : Int32) (wv_at : Int32) (wv_ends : Int32) (wv_fault : Int32) (wv_opened : Int32) (wv_bentMany : Int32) (wv_bentWrong : Int32) (wv_moreWorn : Int32) (wv_wishedField : Int32) (wv_isFound : Bool) (wv_bestWrong : Int32) (wv_bestWorn : Int32) (wv_bestMany : Int32) (wv_shapeRows : List Int32) (wv_shapeColumns : List Int32) (wv_row : List Int32) (wv_column : List Int32) (wv_below : List Int32) (wv_face : List Int32) (wv_worn : List Int32) (wv_lastBend : List Int32) (wv_names : List Int32) (wv_bends : List Int32) (wv_high : List Int32) (wv_to : List Int32) (wv_pileSize : List Int32) (wv_way1 : List Int32) (wv_bestWay : List Int32) => 0 ≤ wv_bestMany.toInt ∧ wv_bestMany.toInt ≤ 3 ∧ wv_shapeRows.length = 6 ∧ wv_shapeColumns.length = 6 ∧ wv_row.length = 192 ∧ wv_column.length = 192 ∧ wv_below.length = 192 ∧ wv_face.length = 192 ∧ wv_worn.length = 384 ∧ wv_lastBend.length = 384 ∧ wv_names.length = 6 ∧ wv_bends.length = 64 ∧ wv_high.length = 32 ∧ wv_to.length = 32 ∧ wv_pileSize.length = 64 ∧ wv_way1.length = 3 ∧ wv_bestWay.length = 3 ∧ fr u_row wv_row A B9 ∧ fr u_col wv_column A B9 ∧ fr u_sR wv_shapeRows a9 b9 ∧ fr u_sC wv_shapeColumns a9 b9)) := by
  have m3 := (i_fl (a := v_rowsOf) (b := v_columnsOf) (by omega) (by omega) (by omega) (by omega)).2
  refine wp_of (uf_X9_right _ _ _ _ _ _ _ _ _ _ _ _ _ _ _ _ _ _ _ _ _ _ _ _ _ _ _ _ _ _ _ _ _ _ _ _) ?_
  have n_2 : (-3 : Int32).toInt = -3 := by decide
  refine wp_if (fun c_1 => ?_) (fun c_1 => ?_)
  ·
    have dc_1 := i_le c_1
    refine wp_bd1 (sf_X9_fields hN h_0 h_1 h_2 h_3) (fun r_2 ⟨q_3, q_4, q_5⟩ => ?_)
    have n_7 : (16 : Int32).toInt = 16 := by decide
    refine wp_if (fun c_6 => ?_) (fun c_6 => ?_)
    ·
      have dc_6 := i_le c_6
      refine wp_bd28 (sf_X9_searches (u_row := u_row) (u_col := u_col) (u_sR := u_sR) (u_sC := u_sC) (A := A) (B9 := B9) (a9 := a9) (b9 := b9) hN h_0 h_1 h_2 h_3 h_4 h_5 h_6 h_7 h_8 h_9 h_10 h_11 h_12 h_13 h_14 h_15 h_16 h_17 h_18 h_19 h_20 h_21 h_22 h_23 h_24 h_25 h_26 h_27 h_28 h_29 h_30 h_31 h_32 h_33) (fun w_5 w_6 w_7 w_8 w_9 w_10 w_11 w_12 w_13 w_14 w_15 w_16 w_17 w_18 w_19 w_20 w_21 w_22 w_23 w_24 w_25 w_26 w_27 w_28 w_29 w_30 w_31 w_32 ⟨q_8, q_9, q_10, q_11, q_12, q_13, q_14, q_15, q_16, q_17, q_18, q_19, q_20, q_21, q_22, q_23, q_24, q_25, q_26, q_27, q_28⟩ => ?_)
      refine wp_if (fun c_29 => ?_) (fun c_29 => ?_)
      ·
        exact wp_so29 ⟨q_8, q_9, q_10, q_11, q_12, q_13, q_14, q_15, q_16, q_17, q_18, q_19, q_20, q_21, q_22, q_23, q_24, q_25, q_26, q_27, q_28⟩
      ·
        refine wp_if (fun c_30 => ?_) (fun c_30 => ?_)
        ·
          have dc_30 := i_eq c_30
          exact wp_so29 ⟨q_8, q_9, q_10, q_11, q_12, q_13, q_14, q_15, q_16, q_17, q_18, q_19, q_20, q_21, q_22, q_23, q_24, q_25, q_26, q_27, q_28⟩
        ·
          have dc_30 := i_ne c_30
          have n_32 : (-2 : Int32).toInt = -2 := by decide
          refine wp_if (fun c_31 => ?_) (fun c_31 => ?_)
          ·
            have dc_31 := i_eq c_31
            exact wp_so29 ⟨q_8, q_9, q_10, q_11, q_12, q_13, q_14, q_15, q_16, q_17, q_18, q_19, q_20, q_21, q_22, q_23, q_24, q_25, q_26, q_27, q_28⟩
          ·
            have dc_31 := i_ne c_31
            have n_34 : (-1 : Int32).toInt = -1 := by decide
            refine wp_if (fun c_33 => ?_) (fun c_33 => ?_)
            ·
              have dc_33 := i_eq c_33
              exact wp_so29 ⟨q_8, q_9, q_10, q_11, q_12, q_13, q_14, q_15, q_16, q_17, q_18, q_19, q_20, q_21, q_22, q_23, q_24, q_25, q_26, q_27, q_28⟩
            ·
              have dc_33 := i_ne c_33
              refine wp_if (fun c_35 => ?_) (fun c_35 => ?_)
              ·
                have dc_35 := i_le c_35
                exact wp_so29 ⟨q_8, q_9, q_10, q_11, q_12, q_13, q_14, q_15, q_16, q_17, q_18, q_19, q_20, q_21, q_22, q_23, q_24, q_25, q_26, q_27, q_28⟩
              ·
                have dc_35 := i_nle c_35
                refine wp_ck (i_inb (by omega) (by omega)) ?_
                exact wp_so29 ⟨q_8, q_9, q_10, q_11, q_12, q_13, q_14, q_15, q_16, q_17, q_18, q_19, q_20, q_21, q_22, q_23, q_24, q_25, q_26, q_27, q_28⟩
    ·
      have dc_6 := i_nle c_6
      exact wp_so29 ⟨h_6, h_7, h_9, h_10, h_11, h_12, h_13, h_14, h_15, h_16, h_19, h_20, h_21, h_22, h_23, h_24, h_25, h_26, h_27, h_28, h_29⟩
  ·
    have dc_1 := i_nle c_1
    exact wp_so29 ⟨h_6, h_7, h_9, h_10, h_11, h_12, h_13, h_14, h_15, h_16, h_19, h_20, h_21, h_22, h_23, h_24, h_25, h_26, h_27, h_28, h_29⟩
end
section
/-! acts of the class, kind by kind -/
theorem uf_X1_call (N : Nat) (go : Int32 → Int32 → Int32 → Int32 → Int32 → Int32 → Int32 → List Int32 → Option (Int32 × Int32 × List Int32)) (x1 : Int32) (x2 : Int32) (x3 : Int32) (x4 : Int32) (x5 : Int32) (v_ran : Int32) (v_number : Int32) (v_trace : List Int32) : fX1_call N go x1 x2 x3 x4 x5 v_ran v_number v_trace = fX1_call_6 N go N x1 x3 x4 x5 x2 (0 : Int32) v_ran v_number v_trace := rfl

theorem uf_X1_call_6 (N : Nat) (go : Int32 → Int32 → Int32 → Int32 → Int32 → Int32 → Int32 → List Int32 → Option (Int32 × Int32 × List Int32)) (n : Nat) (x1 : Int32) (x3 : Int32) (x4 : Int32) (x5 : Int32) (x6 : Int32) (x7 : Int32) (v_ran : Int32) (v_number : Int32) (v_trace : List Int32) : fX1_call_6 N go (n + 1) x1 x3 x4 x5 x6 x7 v_ran v_number v_trace = 
    if (8 : Int32) ≤ x7 then
    (some ((0 : Int32), v_ran, v_trace))
    else (if x6 < 0 then
    (some ((0 : Int32), v_ran, v_trace))
    else (mm_ck (mm_inb (((4 : Int32) * x6) + x3) mm_OWN.length) (if (mm_ig mm_OWN (((4 : Int32) * x6) + x3)) = 0 then
    (mm_ck (mm_inb x6 mm_ABOVE.length) (mm_nm ((mm_ig mm_ABOVE x6)) (fun (y_6 : Int32) =>
    mm_nm (x7 + (1 : Int32)) (fun (y_7 : Int32) =>
    fX1_call_6 N go n x1 x3 x4 x5 y_6 y_7 v_ran v_number v_trace))))
    else (if (40 : Int32) ≤ x5 then
    (some ((0 : Int32), v_ran, v_trace))
    else (mm_ck (mm_inb (((4 : Int32) * x6) + x3) mm_OWN.length) (mm_ck (mm_inb x6 mm_ABOVE.length) (mm_bd3 (go (mm_ig mm_OWN (((4 : Int32) * x6) + x3)) x1 (mm_ig mm_ABOVE x6) x4 (x5 + (1 : Int32)) v_ran v_number v_trace) (fun (r_11 : Int32) (w_12 : Int32) (w_13 : List Int32) =>
    some (r_11, w_12, w_13))))))))) := rfl

theorem uf_X1_note (N : Nat) (x1 : Int32) (v_ran : Int32) (v_trace : List Int32) : fX1_note N x1 v_ran v_trace = if (24 : Int32) ≤ v_ran then
    (fX1_note_19 N v_ran v_trace)
    else (mm_ck (mm_inb v_ran v_trace.length) (mm_nm (mm_is v_trace v_ran x1) (fun (l_3 : List Int32) =>
    fX1_note_19 N v_ran l_3))) := rfl

theorem uf_X1_note_19 (N : Nat) (v_ran : Int32) (v_trace : List Int32) : fX1_note_19 N v_ran v_trace = mm_nm ((v_ran + (1 : Int32))) (fun (y_4 : Int32) =>
    some (y_4, v_trace)) := rfl

theorem uf_X1_run (N : Nat) (M : Nat) (z0 : Int32) (z1 : Int32) (z2 : Int32) (z3 : Int32) (z4 : Int32) (z5 : Int32) (z6 : Int32) (z7 : List Int32) : fX1_run N (M + 1) z0 z1 z2 z3 z4 z5 z6 z7 = (fX1_runo N (fX1_run N M)) z0 z1 z2 z3 z4 z5 z6 z7 := rfl

theorem uf_X1_runo (N : Nat) (go : Int32 → Int32 → Int32 → Int32 → Int32 → Int32 → Int32 → List Int32 → Option (Int32 × Int32 × List Int32)) (x1 : Int32) (x2 : Int32) (x3 : Int32) (x4 : Int32) (x5 : Int32) (v_ran : Int32) (v_number : Int32) (v_trace : List Int32) : fX1_runo N go x1 x2 x3 x4 x5 v_ran v_number v_trace = mm_bd2 (fX1_note N x1 v_ran v_trace) (fun (w_1 : Int32) (w_2 : List Int32) =>
    if x1 = (1 : Int32) then
    (some ((x4 + v_number), w_1, w_2))
    else (if x1 = (2 : Int32) then
    (mm_bd3 (fX1_call N go x2 x2 (1 : Int32) x4 x5 w_1 v_number w_2) (fun (r_6 : Int32) (w_7 : Int32) (w_8 : List Int32) =>
    mm_bd3 (fX1_call N go x2 x2 (2 : Int32) (1 : Int32) x5 w_7 v_number w_8) (fun (r_10 : Int32) (w_11 : Int32) (w_12 : List Int32) =>
    some ((r_6 - r_10), w_11, w_12))))
    else (if x1 = (10 : Int32) then
    (mm_bd3 (fX1_call N go x2 x2 (0 : Int32) x4 x5 w_1 v_number w_2) (fun (r_15 : Int32) (w_16 : Int32) (w_17 : List Int32) =>
    some ((r_15 * (2 : Int32)), w_16, w_17)))
    else (if x1 = (11 : Int32) then
    (some ((x4 ^^^ v_number), w_1, w_2))
    else (if x1 = (20 : Int32) then
    (mm_bd3 (fX1_call N go x2 x3 (0 : Int32) x4 x5 w_1 v_number w_2) (fun (r_21 : Int32) (w_22 : Int32) (w_23 : List Int32) =>
    some ((r_21 + (3 : Int32)), w_22, w_23)))
    else (if x1 = (30 : Int32) then
    (mm_bd3 (fX1_call N go x2 x3 (1 : Int32) x4 x5 w_1 v_number w_2) (fun (r_26 : Int32) (w_27 : Int32) (w_28 : List Int32) =>
    some ((-r_26), w_27, w_28)))
    else (if x1 = (40 : Int32) then
    (mm_bd3 (fX1_call N go x2 x3 (2 : Int32) x4 x5 w_1 v_number w_2) (fun (r_31 : Int32) (w_32 : Int32) (w_33 : List Int32) =>
    some ((r_31 * (3 : Int32)), w_32, w_33)))
    else (if x1 = (41 : Int32) then
    (mm_bd3 (fX1_call N go x2 x3 (1 : Int32) (x4 + (1 : Int32)) x5 w_1 v_number w_2) (fun (r_36 : Int32) (w_37 : Int32) (w_38 : List Int32) =>
    some (r_36, w_37, w_38)))
    else (if x1 = (50 : Int32) then
    (mm_bd3 (fX1_call N go x2 x3 (2 : Int32) x4 x5 w_1 v_number w_2) (fun (r_41 : Int32) (w_42 : Int32) (w_43 : List Int32) =>
    mm_bd3 (fX1_call N go x2 x2 (0 : Int32) (2 : Int32) x5 w_42 v_number w_43) (fun (r_45 : Int32) (w_46 : Int32) (w_47 : List Int32) =>
    some ((r_41 - r_45), w_46, w_47))))
    else (if x1 = (60 : Int32) then
    (mm_bd3 (fX1_call N go x2 x3 (3 : Int32) x4 x5 w_1 v_number w_2) (fun (r_50 : Int32) (w_51 : Int32) (w_52 : List Int32) =>
    some ((r_50 ^^^ (5 : Int32)), w_51, w_52)))
    else (if x1 = (70 : Int32) then
    (mm_bd3 (fX1_call N go x2 x3 (0 : Int32) x4 x5 w_1 v_number w_2) (fun (r_55 : Int32) (w_56 : Int32) (w_57 : List Int32) =>
    some ((r_55 * (2 : Int32)), w_56, w_57)))
    else (if x1 = (80 : Int32) then
    (mm_bd3 (fX1_call N go x2 x3 (1 : Int32) x4 x5 w_1 v_number w_2) (fun (r_60 : Int32) (w_61 : Int32) (w_62 : List Int32) =>
    mm_bd3 (fX1_call N go x2 x2 (2 : Int32) (2 : Int32) x5 w_61 v_number w_62) (fun (r_64 : Int32) (w_65 : Int32) (w_66 : List Int32) =>
    some ((r_60 + r_64), w_65, w_66))))
    else (if x1 = (81 : Int32) then
    (mm_bd3 (fX1_call N go x2 x3 (3 : Int32) x4 x5 w_1 v_number w_2) (fun (r_69 : Int32) (w_70 : Int32) (w_71 : List Int32) =>
    some ((r_69 - (1 : Int32)), w_70, w_71)))
    else (some ((0 : Int32), w_1, w_2))))))))))))))) := rfl

set_option maxRecDepth 20000 in
theorem ac8_0_0 (x b : Int32) (tr : List Int32) (hl : tr.length = 24) : wp (fX1_call 700 (fX1_run 700 42) (0 : Int32) (0 : Int32) (0 : Int32) x (0 : Int32) (0 : Int32) b tr) (cu3 (fun r0 r1 r2 => r0 = (x + b) ∧ r1 = ((0 : Int32) + (1 : Int32)) ∧ r2 = (mm_is tr (0 : Int32) (mm_ig mm_OWN (((4 : Int32) * (0 : Int32)) + (0 : Int32)))))) := by
  refine wp_of (uf_X1_call _ _ _ _ _ _ _ _ _ _) ?_
  refine wp_of (uf_X1_call_6 _ _ _ _ _ _ _ _ _ _ _ _) ?_
  refine wp_ifn (by decide) ?_
  refine wp_ifn (by decide) ?_
  refine wp_ck (by decide) ?_
  refine wp_ifn (by decide) ?_
  refine wp_ifn (by decide) ?_
  refine wp_ck (by decide) ?_
  refine wp_ck (by decide) ?_
  refine wp_in3 ?_
  refine wp_of (uf_X1_run _ _ _ _ _ _ _ _ _ _) ?_
  refine wp_of (uf_X1_runo _ _ _ _ _ _ _ _ _ _) ?_
  refine wp_in2 ?_
  refine wp_of (uf_X1_note _ _ _ _) ?_
  refine wp_ifn (by decide) ?_
  refine wp_ck (i_inb (by decide) (by rw [show ((0 : Int32)).toInt = 0 from by decide]; (try simp only [is_len]); omega)) ?_
  refine wp_nm (fun y1 h1 => ?_)
  subst h1
  refine wp_of (uf_X1_note_19 _ _ _) ?_
  refine wp_nm (fun y2 h2 => ?_)
  subst h2
  refine wp_so2 ?_
  show wp _ _
  refine wp_ifp (by decide) ?_
  refine wp_so3 ?_
  show wp _ _
  exact wp_so3 ⟨rfl, rfl, rfl⟩

set_option maxRecDepth 20000 in
theorem ac8_0_1 (x b : Int32) (tr : List Int32) (hl : tr.length = 24) : wp (fX1_call 700 (fX1_run 700 42) (0 : Int32) (0 : Int32) (1 : Int32) x (0 : Int32) (0 : Int32) b tr) (cu3 (fun r0 r1 r2 => r0 = ((x + b) * (2 : Int32)) ∧ r1 = (((0 : Int32) + (1 : Int32)) + (1 : Int32)) ∧ r2 = (mm_is (mm_is tr (0 : Int32) (mm_ig mm_OWN (((4 : Int32) * (0 : Int32)) + (1 : Int32)))) ((0 : Int32) + (1 : Int32)) (mm_ig mm_OWN (((4 : Int32) * (0 : Int32)) + (0 : Int32)))))) := by
  refine wp_of (uf_X1_call _ _ _ _ _ _ _ _ _ _) ?_
  refine wp_of (uf_X1_call_6 _ _ _ _ _ _ _ _ _ _ _ _) ?_
  refine wp_ifn (by decide) ?_
  refine wp_ifn (by decide) ?_
  refine wp_ck (by decide) ?_
  refine wp_ifn (by decide) ?_
  refine wp_ifn (by decide) ?_
  refine wp_ck (by decide) ?_
  refine wp_ck (by decide) ?_
  refine wp_in3 ?_
  refine wp_of (uf_X1_run _ _ _ _ _ _ _ _ _ _) ?_
  refine wp_of (uf_X1_runo _ _ _ _ _ _ _ _ _ _) ?_
  refine wp_in2 ?_
  refine wp_of (uf_X1_note _ _ _ _) ?_
  refine wp_ifn (by decide) ?_
  refine wp_ck (i_inb (by decide) (by rw [show ((0 : Int32)).toInt = 0 from by decide]; (try simp only [is_len]); omega)) ?_
  refine wp_nm (fun y1 h1 => ?_)
  subst h1
  refine wp_of (uf_X1_note_19 _ _ _) ?_
  refine wp_nm (fun y2 h2 => ?_)
  subst h2
  refine wp_so2 ?_
  show wp _ _
  refine wp_ifn (by decide) ?_
  refine wp_ifn (by decide) ?_
  refine wp_ifp (by decide) ?_
  refine wp_in3 ?_
  refine wp_of (uf_X1_call _ _ _ _ _ _ _ _ _ _) ?_
  refine wp_of (uf_X1_call_6 _ _ _ _ _ _ _ _ _ _ _ _) ?_
  refine wp_ifn (by decide) ?_
  refine wp_ifn (by decide) ?_
  refine wp_ck (by decide) ?_
  refine wp_ifn (by decide) ?_
  refine wp_ifn (by decide) ?_
  refine wp_ck (by decide) ?_
  refine wp_ck (by decide) ?_
  refine wp_in3 ?_
  refine wp_of (uf_X1_run _ _ _ _ _ _ _ _ _ _) ?_
  refine wp_of (uf_X1_runo _ _ _ _ _ _ _ _ _ _) ?_
  refine wp_in2 ?_
  refine wp_of (uf_X1_note _ _ _ _) ?_
  refine wp_ifn (by decide) ?_
  refine wp_ck (i_inb (by decide) (by rw [show (((0 : Int32) + (1 : Int32))).toInt = 1 from by decide]; (try simp only [is_len]); omega)) ?_
  refine wp_nm (fun y3 h3 => ?_)
  subst h3
  refine wp_of (uf_X1_note_19 _ _ _) ?_
  refine wp_nm (fun y4 h4 => ?_)
  subst h4
  refine wp_so2 ?_
  show wp _ _
  refine wp_ifp (by decide) ?_
  refine wp_so3 ?_
  show wp _ _
  refine wp_so3 ?_
  show wp _ _
  refine wp_so3 ?_
  show wp _ _
  exact wp_so3 ⟨rfl, rfl, rfl⟩

set_option maxRecDepth 20000 in
theorem ac8_0_2 (x b : Int32) (tr : List Int32) (hl : tr.length = 24) : wp (fX1_call 700 (fX1_run 700 42) (0 : Int32) (0 : Int32) (2 : Int32) x (0 : Int32) (0 : Int32) b tr) (cu3 (fun r0 r1 r2 => r0 = (x ^^^ b) ∧ r1 = ((0 : Int32) + (1 : Int32)) ∧ r2 = (mm_is tr (0 : Int32) (mm_ig mm_OWN (((4 : Int32) * (0 : Int32)) + (2 : Int32)))))) := by
  refine wp_of (uf_X1_call _ _ _ _ _ _ _ _ _ _) ?_
  refine wp_of (uf_X1_call_6 _ _ _ _ _ _ _ _ _ _ _ _) ?_
  refine wp_ifn (by decide) ?_
  refine wp_ifn (by decide) ?_
  refine wp_ck (by decide) ?_
  refine wp_ifn (by decide) ?_
  refine wp_ifn (by decide) ?_
  refine wp_ck (by decide) ?_
  refine wp_ck (by decide) ?_
  refine wp_in3 ?_
  refine wp_of (uf_X1_run _ _ _ _ _ _ _ _ _ _) ?_
  refine wp_of (uf_X1_runo _ _ _ _ _ _ _ _ _ _) ?_
  refine wp_in2 ?_
  refine wp_of (uf_X1_note _ _ _ _) ?_
  refine wp_ifn (by decide) ?_
  refine wp_ck (i_inb (by decide) (by rw [show ((0 : Int32)).toInt = 0 from by decide]; (try simp only [is_len]); omega)) ?_
  refine wp_nm (fun y1 h1 => ?_)
  subst h1
  refine wp_of (uf_X1_note_19 _ _ _) ?_
  refine wp_nm (fun y2 h2 => ?_)
  subst h2
  refine wp_so2 ?_
  show wp _ _
  refine wp_ifn (by decide) ?_
  refine wp_ifn (by decide) ?_
  refine wp_ifn (by decide) ?_
  refine wp_ifp (by decide) ?_
  refine wp_so3 ?_
  show wp _ _
  exact wp_so3 ⟨rfl, rfl, rfl⟩

set_option maxRecDepth 20000 in
theorem ac8_0_3 (x b : Int32) (tr : List Int32) (hl : tr.length = 24) : wp (fX1_call 700 (fX1_run 700 42) (0 : Int32) (0 : Int32) (3 : Int32) x (0 : Int32) (0 : Int32) b tr) (cu3 (fun r0 r1 r2 => r0 = (((x + b) * (2 : Int32)) - ((1 : Int32) ^^^ b)) ∧ r1 = (((((0 : Int32) + (1 : Int32)) + (1 : Int32)) + (1 : Int32)) + (1 : Int32)) ∧ r2 = (mm_is (mm_is (mm_is (mm_is tr (0 : Int32) (mm_ig mm_OWN (((4 : Int32) * (0 : Int32)) + (3 : Int32)))) ((0 : Int32) + (1 : Int32)) (mm_ig mm_OWN (((4 : Int32) * (0 : Int32)) + (1 : Int32)))) (((0 : Int32) + (1 : Int32)) + (1 : Int32)) (mm_ig mm_OWN (((4 : Int32) * (0 : Int32)) + (0 : Int32)))) ((((0 : Int32) + (1 : Int32)) + (1 : Int32)) + (1 : Int32)) (mm_ig mm_OWN (((4 : Int32) * (0 : Int32)) + (2 : Int32)))))) := by
  refine wp_of (uf_X1_call _ _ _ _ _ _ _ _ _ _) ?_
  refine wp_of (uf_X1_call_6 _ _ _ _ _ _ _ _ _ _ _ _) ?_
  refine wp_ifn (by decide) ?_
  refine wp_ifn (by decide) ?_
  refine wp_ck (by decide) ?_
  refine wp_ifn (by decide) ?_
  refine wp_ifn (by decide) ?_
  refine wp_ck (by decide) ?_
  refine wp_ck (by decide) ?_
  refine wp_in3 ?_
  refine wp_of (uf_X1_run _ _ _ _ _ _ _ _ _ _) ?_
  refine wp_of (uf_X1_runo _ _ _ _ _ _ _ _ _ _) ?_
  refine wp_in2 ?_
  refine wp_of (uf_X1_note _ _ _ _) ?_
  refine wp_ifn (by decide) ?_
  refine wp_ck (i_inb (by decide) (by rw [show ((0 : Int32)).toInt = 0 from by decide]; (try simp only [is_len]); omega)) ?_
  refine wp_nm (fun y1 h1 => ?_)
  subst h1
  refine wp_of (uf_X1_note_19 _ _ _) ?_
  refine wp_nm (fun y2 h2 => ?_)
  subst h2
  refine wp_so2 ?_
  show wp _ _
  refine wp_ifn (by decide) ?_
  refine wp_ifp (by decide) ?_
  refine wp_in3 ?_
  refine wp_of (uf_X1_call _ _ _ _ _ _ _ _ _ _) ?_
  refine wp_of (uf_X1_call_6 _ _ _ _ _ _ _ _ _ _ _ _) ?_
  refine wp_ifn (by decide) ?_
  refine wp_ifn (by decide) ?_
  refine wp_ck (by decide) ?_
  refine wp_ifn (by decide) ?_
  refine wp_ifn (by decide) ?_
  refine wp_ck (by decide) ?_
  refine wp_ck (by decide) ?_
  refine wp_in3 ?_
  refine wp_of (uf_X1_run _ _ _ _ _ _ _ _ _ _) ?_
  refine wp_of (uf_X1_runo _ _ _ _ _ _ _ _ _ _) ?_
  refine wp_in2 ?_
  refine wp_of (uf_X1_note _ _ _ _) ?_
  refine wp_ifn (by decide) ?_
  refine wp_ck (i_inb (by decide) (by rw [show (((0 : Int32) + (1 : Int32))).toInt = 1 from by decide]; (try simp only [is_len]); omega)) ?_
  refine wp_nm (fun y3 h3 => ?_)
  subst h3
  refine wp_of (uf_X1_note_19 _ _ _) ?_
  refine wp_nm (fun y4 h4 => ?_)
  subst h4
  refine wp_so2 ?_
  show wp _ _
  refine wp_ifn (by decide) ?_
  refine wp_ifn (by decide) ?_
  refine wp_ifp (by decide) ?_
  refine wp_in3 ?_
  refine wp_of (uf_X1_call _ _ _ _ _ _ _ _ _ _) ?_
  refine wp_of (uf_X1_call_6 _ _ _ _ _ _ _ _ _ _ _ _) ?_
  refine wp_ifn (by decide) ?_
  refine wp_ifn (by decide) ?_
  refine wp_ck (by decide) ?_
  refine wp_ifn (by decide) ?_
  refine wp_ifn (by decide) ?_
  refine wp_ck (by decide) ?_
  refine wp_ck (by decide) ?_
  refine wp_in3 ?_
  refine wp_of (uf_X1_run _ _ _ _ _ _ _ _ _ _) ?_
  refine wp_of (uf_X1_runo _ _ _ _ _ _ _ _ _ _) ?_
  refine wp_in2 ?_
  refine wp_of (uf_X1_note _ _ _ _) ?_
  refine wp_ifn (by decide) ?_
  refine wp_ck (i_inb (by decide) (by rw [show ((((0 : Int32) + (1 : Int32)) + (1 : Int32))).toInt = 2 from by decide]; (try simp only [is_len]); omega)) ?_
  refine wp_nm (fun y5 h5 => ?_)
  subst h5
  refine wp_of (uf_X1_note_19 _ _ _) ?_
  refine wp_nm (fun y6 h6 => ?_)
  subst h6
  refine wp_so2 ?_
  show wp _ _
  refine wp_ifp (by decide) ?_
  refine wp_so3 ?_
  show wp _ _
  refine wp_so3 ?_
  show wp _ _
  refine wp_so3 ?_
  show wp _ _
  refine wp_so3 ?_
  show wp _ _
  refine wp_in3 ?_
  refine wp_of (uf_X1_call _ _ _ _ _ _ _ _ _ _) ?_
  refine wp_of (uf_X1_call_6 _ _ _ _ _ _ _ _ _ _ _ _) ?_
  refine wp_ifn (by decide) ?_
  refine wp_ifn (by decide) ?_
  refine wp_ck (by decide) ?_
  refine wp_ifn (by decide) ?_
  refine wp_ifn (by decide) ?_
  refine wp_ck (by decide) ?_
  refine wp_ck (by decide) ?_
  refine wp_in3 ?_
  refine wp_of (uf_X1_run _ _ _ _ _ _ _ _ _ _) ?_
  refine wp_of (uf_X1_runo _ _ _ _ _ _ _ _ _ _) ?_
  refine wp_in2 ?_
  refine wp_of (uf_X1_note _ _ _ _) ?_
  refine wp_ifn (by decide) ?_
  refine wp_ck (i_inb (by decide) (by rw [show (((((0 : Int32) + (1 : Int32)) + (1 : Int32)) + (1 : Int32))).toInt = 3 from by decide]; (try simp only [is_len]); omega)) ?_
  refine wp_nm (fun y7 h7 => ?_)
  subst h7
  refine wp_of (uf_X1_note_19 _ _ _) ?_
  refine wp_nm (fun y8 h8 => ?_)
  subst h8
  refine wp_so2 ?_
  show wp _ _
  refine wp_ifn (by decide) ?_
  refine wp_ifn (by decide) ?_
  refine wp_ifn (by decide) ?_
  refine wp_ifp (by decide) ?_
  refine wp_so3 ?_
  show wp _ _
  refine wp_so3 ?_
  show wp _ _
  refine wp_so3 ?_
  show wp _ _
  exact wp_so3 ⟨rfl, rfl, rfl⟩

set_option maxRecDepth 20000 in
theorem ac8_1_0 (x b : Int32) (tr : List Int32) (hl : tr.length = 24) : wp (fX1_call 700 (fX1_run 700 42) (1 : Int32) (1 : Int32) (0 : Int32) x (0 : Int32) (0 : Int32) b tr) (cu3 (fun r0 r1 r2 => r0 = ((x + b) + (3 : Int32)) ∧ r1 = (((0 : Int32) + (1 : Int32)) + (1 : Int32)) ∧ r2 = (mm_is (mm_is tr (0 : Int32) (mm_ig mm_OWN (((4 : Int32) * (1 : Int32)) + (0 : Int32)))) ((0 : Int32) + (1 : Int32)) (mm_ig mm_OWN (((4 : Int32) * (mm_ig mm_ABOVE (1 : Int32))) + (0 : Int32)))))) := by
  refine wp_of (uf_X1_call _ _ _ _ _ _ _ _ _ _) ?_
  refine wp_of (uf_X1_call_6 _ _ _ _ _ _ _ _ _ _ _ _) ?_
  refine wp_ifn (by decide) ?_
  refine wp_ifn (by decide) ?_
  refine wp_ck (by decide) ?_
  refine wp_ifn (by decide) ?_
  refine wp_ifn (by decide) ?_
  refine wp_ck (by decide) ?_
  refine wp_ck (by decide) ?_
  refine wp_in3 ?_
  refine wp_of (uf_X1_run _ _ _ _ _ _ _ _ _ _) ?_
  refine wp_of (uf_X1_runo _ _ _ _ _ _ _ _ _ _) ?_
  refine wp_in2 ?_
  refine wp_of (uf_X1_note _ _ _ _) ?_
  refine wp_ifn (by decide) ?_
  refine wp_ck (i_inb (by decide) (by rw [show ((0 : Int32)).toInt = 0 from by decide]; (try simp only [is_len]); omega)) ?_
  refine wp_nm (fun y1 h1 => ?_)
  subst h1
  refine wp_of (uf_X1_note_19 _ _ _) ?_
  refine wp_nm (fun y2 h2 => ?_)
  subst h2
  refine wp_so2 ?_
  show wp _ _
  refine wp_ifn (by decide) ?_
  refine wp_ifn (by decide) ?_
  refine wp_ifn (by decide) ?_
  refine wp_ifn (by decide) ?_
  refine wp_ifp (by decide) ?_
  refine wp_in3 ?_
  refine wp_of (uf_X1_call _ _ _ _ _ _ _ _ _ _) ?_
  refine wp_of (uf_X1_call_6 _ _ _ _ _ _ _ _ _ _ _ _) ?_
  refine wp_ifn (by decide) ?_
  refine wp_ifn (by decide) ?_
  refine wp_ck (by decide) ?_
  refine wp_ifn (by decide) ?_
  refine wp_ifn (by decide) ?_
  refine wp_ck (by decide) ?_
  refine wp_ck (by decide) ?_
  refine wp_in3 ?_
  refine wp_of (uf_X1_run _ _ _ _ _ _ _ _ _ _) ?_
  refine wp_of (uf_X1_runo _ _ _ _ _ _ _ _ _ _) ?_
  refine wp_in2 ?_
  refine wp_of (uf_X1_note _ _ _ _) ?_
  refine wp_ifn (by decide) ?_
  refine wp_ck (i_inb (by decide) (by rw [show (((0 : Int32) + (1 : Int32))).toInt = 1 from by decide]; (try simp only [is_len]); omega)) ?_
  refine wp_nm (fun y3 h3 => ?_)
  subst h3
  refine wp_of (uf_X1_note_19 _ _ _) ?_
  refine wp_nm (fun y4 h4 => ?_)
  subst h4
  refine wp_so2 ?_
  show wp _ _
  refine wp_ifp (by decide) ?_
  refine wp_so3 ?_
  show wp _ _
  refine wp_so3 ?_
  show wp _ _
  refine wp_so3 ?_
  show wp _ _
  exact wp_so3 ⟨rfl, rfl, rfl⟩

set_option maxRecDepth 20000 in
theorem ac8_1_1 (x b : Int32) (tr : List Int32) (hl : tr.length = 24) : wp (fX1_call 700 (fX1_run 700 42) (1 : Int32) (1 : Int32) (1 : Int32) x (0 : Int32) (0 : Int32) b tr) (cu3 (fun r0 r1 r2 => r0 = (((x + b) + (3 : Int32)) * (2 : Int32)) ∧ r1 = ((((0 : Int32) + (1 : Int32)) + (1 : Int32)) + (1 : Int32)) ∧ r2 = (mm_is (mm_is (mm_is tr (0 : Int32) (mm_ig mm_OWN (((4 : Int32) * (mm_ig mm_ABOVE (1 : Int32))) + (1 : Int32)))) ((0 : Int32) + (1 : Int32)) (mm_ig mm_OWN (((4 : Int32) * (1 : Int32)) + (0 : Int32)))) (((0 : Int32) + (1 : Int32)) + (1 : Int32)) (mm_ig mm_OWN (((4 : Int32) * (mm_ig mm_ABOVE (1 : Int32))) + (0 : Int32)))))) := by
  refine wp_of (uf_X1_call _ _ _ _ _ _ _ _ _ _) ?_
  refine wp_of (uf_X1_call_6 _ _ _ _ _ _ _ _ _ _ _ _) ?_
  refine wp_ifn (by decide) ?_
  refine wp_ifn (by decide) ?_
  refine wp_ck (by decide) ?_
  refine wp_ifp (by decide) ?_
  refine wp_ck (by decide) ?_
  refine wp_nm (fun y1 h1 => ?_)
  subst h1
  refine wp_nm (fun y2 h2 => ?_)
  subst h2
  refine wp_of (uf_X1_call_6 _ _ _ _ _ _ _ _ _ _ _ _) ?_
  refine wp_ifn (by decide) ?_
  refine wp_ifn (by decide) ?_
  refine wp_ck (by decide) ?_
  refine wp_ifn (by decide) ?_
  refine wp_ifn (by decide) ?_
  refine wp_ck (by decide) ?_
  refine wp_ck (by decide) ?_
  refine wp_in3 ?_
  refine wp_of (uf_X1_run _ _ _ _ _ _ _ _ _ _) ?_
  refine wp_of (uf_X1_runo _ _ _ _ _ _ _ _ _ _) ?_
  refine wp_in2 ?_
  refine wp_of (uf_X1_note _ _ _ _) ?_
  refine wp_ifn (by decide) ?_
  refine wp_ck (i_inb (by decide) (by rw [show ((0 : Int32)).toInt = 0 from by decide]; (try simp only [is_len]); omega)) ?_
  refine wp_nm (fun y3 h3 => ?_)
  subst h3
  refine wp_of (uf_X1_note_19 _ _ _) ?_
  refine wp_nm (fun y4 h4 => ?_)
  subst h4
  refine wp_so2 ?_
  show wp _ _
  refine wp_ifn (by decide) ?_
  refine wp_ifn (by decide) ?_
  refine wp_ifp (by decide) ?_
  refine wp_in3 ?_
  refine wp_of (uf_X1_call _ _ _ _ _ _ _ _ _ _) ?_
  refine wp_of (uf_X1_call_6 _ _ _ _ _ _ _ _ _ _ _ _) ?_
  refine wp_ifn (by decide) ?_
  refine wp_ifn (by decide) ?_
  refine wp_ck (by decide) ?_
  refine wp_ifn (by decide) ?_
  refine wp_ifn (by decide) ?_
  refine wp_ck (by decide) ?_
  refine wp_ck (by decide) ?_
  refine wp_in3 ?_
  refine wp_of (uf_X1_run _ _ _ _ _ _ _ _ _ _) ?_
  refine wp_of (uf_X1_runo _ _ _ _ _ _ _ _ _ _) ?_
  refine wp_in2 ?_
  refine wp_of (uf_X1_note _ _ _ _) ?_
  refine wp_ifn (by decide) ?_
  refine wp_ck (i_inb (by decide) (by rw [show (((0 : Int32) + (1 : Int32))).toInt = 1 from by decide]; (try simp only [is_len]); omega)) ?_
  refine wp_nm (fun y5 h5 => ?_)
  subst h5
  refine wp_of (uf_X1_note_19 _ _ _) ?_
  refine wp_nm (fun y6 h6 => ?_)
  subst h6
  refine wp_so2 ?_
  show wp _ _
  refine wp_ifn (by decide) ?_
  refine wp_ifn (by decide) ?_
  refine wp_ifn (by decide) ?_
  refine wp_ifn (by decide) ?_
  refine wp_ifp (by decide) ?_
  refine wp_in3 ?_
  refine wp_of (uf_X1_call _ _ _ _ _ _ _ _ _ _) ?_
  refine wp_of (uf_X1_call_6 _ _ _ _ _ _ _ _ _ _ _ _) ?_
  refine wp_ifn (by decide) ?_
  refine wp_ifn (by decide) ?_
  refine wp_ck (by decide) ?_
  refine wp_ifn (by decide) ?_
  refine wp_ifn (by decide) ?_
  refine wp_ck (by decide) ?_
  refine wp_ck (by decide) ?_
  refine wp_in3 ?_
  refine wp_of (uf_X1_run _ _ _ _ _ _ _ _ _ _) ?_
  refine wp_of (uf_X1_runo _ _ _ _ _ _ _ _ _ _) ?_
  refine wp_in2 ?_
  refine wp_of (uf_X1_note _ _ _ _) ?_
  refine wp_ifn (by decide) ?_
  refine wp_ck (i_inb (by decide) (by rw [show ((((0 : Int32) + (1 : Int32)) + (1 : Int32))).toInt = 2 from by decide]; (try simp only [is_len]); omega)) ?_
  refine wp_nm (fun y7 h7 => ?_)
  subst h7
  refine wp_of (uf_X1_note_19 _ _ _) ?_
  refine wp_nm (fun y8 h8 => ?_)
  subst h8
  refine wp_so2 ?_
  show wp _ _
  refine wp_ifp (by decide) ?_
  refine wp_so3 ?_
  show wp _ _
  refine wp_so3 ?_
  show wp _ _
  refine wp_so3 ?_
  show wp _ _
  refine wp_so3 ?_
  show wp _ _
  refine wp_so3 ?_
  show wp _ _
  exact wp_so3 ⟨rfl, rfl, rfl⟩

set_option maxRecDepth 20000 in
theorem ac8_1_2 (x b : Int32) (tr : List Int32) (hl : tr.length = 24) : wp (fX1_call 700 (fX1_run 700 42) (1 : Int32) (1 : Int32) (2 : Int32) x (0 : Int32) (0 : Int32) b tr) (cu3 (fun r0 r1 r2 => r0 = (x ^^^ b) ∧ r1 = ((0 : Int32) + (1 : Int32)) ∧ r2 = (mm_is tr (0 : Int32) (mm_ig mm_OWN (((4 : Int32) * (mm_ig mm_ABOVE (1 : Int32))) + (2 : Int32)))))) := by
  refine wp_of (uf_X1_call _ _ _ _ _ _ _ _ _ _) ?_
  refine wp_of (uf_X1_call_6 _ _ _ _ _ _ _ _ _ _ _ _) ?_
  refine wp_ifn (by decide) ?_
  refine wp_ifn (by decide) ?_
  refine wp_ck (by decide) ?_
  refine wp_ifp (by decide) ?_
  refine wp_ck (by decide) ?_
  refine wp_nm (fun y1 h1 => ?_)
  subst h1
  refine wp_nm (fun y2 h2 => ?_)
  subst h2
  refine wp_of (uf_X1_call_6 _ _ _ _ _ _ _ _ _ _ _ _) ?_
  refine wp_ifn (by decide) ?_
  refine wp_ifn (by decide) ?_
  refine wp_ck (by decide) ?_
  refine wp_ifn (by decide) ?_
  refine wp_ifn (by decide) ?_
  refine wp_ck (by decide) ?_
  refine wp_ck (by decide) ?_
  refine wp_in3 ?_
  refine wp_of (uf_X1_run _ _ _ _ _ _ _ _ _ _) ?_
  refine wp_of (uf_X1_runo _ _ _ _ _ _ _ _ _ _) ?_
  refine wp_in2 ?_
  refine wp_of (uf_X1_note _ _ _ _) ?_
  refine wp_ifn (by decide) ?_
  refine wp_ck (i_inb (by decide) (by rw [show ((0 : Int32)).toInt = 0 from by decide]; (try simp only [is_len]); omega)) ?_
  refine wp_nm (fun y3 h3 => ?_)
  subst h3
  refine wp_of (uf_X1_note_19 _ _ _) ?_
  refine wp_nm (fun y4 h4 => ?_)
  subst h4
  refine wp_so2 ?_
  show wp _ _
  refine wp_ifn (by decide) ?_
  refine wp_ifn (by decide) ?_
  refine wp_ifn (by decide) ?_
  refine wp_ifp (by decide) ?_
  refine wp_so3 ?_
  show wp _ _
  exact wp_so3 ⟨rfl, rfl, rfl⟩

set_option maxRecDepth 20000 in
theorem ac8_1_3 (x b : Int32) (tr : List Int32) (hl : tr.length = 24) : wp (fX1_call 700 (fX1_run 700 42) (1 : Int32) (1 : Int32) (3 : Int32) x (0 : Int32) (0 : Int32) b tr) (cu3 (fun r0 r1 r2 => r0 = ((((x + b) + (3 : Int32)) * (2 : Int32)) - ((1 : Int32) ^^^ b)) ∧ r1 = ((((((0 : Int32) + (1 : Int32)) + (1 : Int32)) + (1 : Int32)) + (1 : Int32)) + (1 : Int32)) ∧ r2 = (mm_is (mm_is (mm_is (mm_is (mm_is tr (0 : Int32) (mm_ig mm_OWN (((4 : Int32) * (mm_ig mm_ABOVE (1 : Int32))) + (3 : Int32)))) ((0 : Int32) + (1 : Int32)) (mm_ig mm_OWN (((4 : Int32) * (mm_ig mm_ABOVE (1 : Int32))) + (1 : Int32)))) (((0 : Int32) + (1 : Int32)) + (1 : Int32)) (mm_ig mm_OWN (((4 : Int32) * (1 : Int32)) + (0 : Int32)))) ((((0 : Int32) + (1 : Int32)) + (1 : Int32)) + (1 : Int32)) (mm_ig mm_OWN (((4 : Int32) * (mm_ig mm_ABOVE (1 : Int32))) + (0 : Int32)))) (((((0 : Int32) + (1 : Int32)) + (1 : Int32)) + (1 : Int32)) + (1 : Int32)) (mm_ig mm_OWN (((4 : Int32) * (mm_ig mm_ABOVE (1 : Int32))) + (2 : Int32)))))) := by
  refine wp_of (uf_X1_call _ _ _ _ _ _ _ _ _ _) ?_
  refine wp_of (uf_X1_call_6 _ _ _ _ _ _ _ _ _ _ _ _) ?_
  refine wp_ifn (by decide) ?_
  refine wp_ifn (by decide) ?_
  refine wp_ck (by decide) ?_
  refine wp_ifp (by decide) ?_
  refine wp_ck (by decide) ?_
  refine wp_nm (fun y1 h1 => ?_)
  subst h1
  refine wp_nm (fun y2 h2 => ?_)
  subst h2
  refine wp_of (uf_X1_call_6 _ _ _ _ _ _ _ _ _ _ _ _) ?_
  refine wp_ifn (by decide) ?_
  refine wp_ifn (by decide) ?_
  refine wp_ck (by decide) ?_
  refine wp_ifn (by decide) ?_
  refine wp_ifn (by decide) ?_
  refine wp_ck (by decide) ?_
  refine wp_ck (by decide) ?_
  refine wp_in3 ?_
  refine wp_of (uf_X1_run _ _ _ _ _ _ _ _ _ _) ?_
  refine wp_of (uf_X1_runo _ _ _ _ _ _ _ _ _ _) ?_
  refine wp_in2 ?_
  refine wp_of (uf_X1_note _ _ _ _) ?_
  refine wp_ifn (by decide) ?_
  refine wp_ck (i_inb (by decide) (by rw [show ((0 : Int32)).toInt = 0 from by decide]; (try simp only [is_len]); omega)) ?_
  refine wp_nm (fun y3 h3 => ?_)
  subst h3
  refine wp_of (uf_X1_note_19 _ _ _) ?_
  refine wp_nm (fun y4 h4 => ?_)
  subst h4
  refine wp_so2 ?_
  show wp _ _
  refine wp_ifn (by decide) ?_
  refine wp_ifp (by decide) ?_
  refine wp_in3 ?_
  refine wp_of (uf_X1_call _ _ _ _ _ _ _ _ _ _) ?_
  refine wp_of (uf_X1_call_6 _ _ _ _ _ _ _ _ _ _ _ _) ?_
  refine wp_ifn (by decide) ?_
  refine wp_ifn (by decide) ?_
  refine wp_ck (by decide) ?_
  refine wp_ifp (by decide) ?_
  refine wp_ck (by decide) ?_
  refine wp_nm (fun y5 h5 => ?_)
  subst h5
  refine wp_nm (fun y6 h6 => ?_)
  subst h6
  refine wp_of (uf_X1_call_6 _ _ _ _ _ _ _ _ _ _ _ _) ?_
  refine wp_ifn (by decide) ?_
  refine wp_ifn (by decide) ?_
  refine wp_ck (by decide) ?_
  refine wp_ifn (by decide) ?_
  refine wp_ifn (by decide) ?_
  refine wp_ck (by decide) ?_
  refine wp_ck (by decide) ?_
  refine wp_in3 ?_
  refine wp_of (uf_X1_run _ _ _ _ _ _ _ _ _ _) ?_
  refine wp_of (uf_X1_runo _ _ _ _ _ _ _ _ _ _) ?_
  refine wp_in2 ?_
  refine wp_of (uf_X1_note _ _ _ _) ?_
  refine wp_ifn (by decide) ?_
  refine wp_ck (i_inb (by decide) (by rw [show (((0 : Int32) + (1 : Int32))).toInt = 1 from by decide]; (try simp only [is_len]); omega)) ?_
  refine wp_nm (fun y7 h7 => ?_)
  subst h7
  refine wp_of (uf_X1_note_19 _ _ _) ?_
  refine wp_nm (fun y8 h8 => ?_)
  subst h8
  refine wp_so2 ?_
  show wp _ _
  refine wp_ifn (by decide) ?_
  refine wp_ifn (by decide) ?_
  refine wp_ifp (by decide) ?_
  refine wp_in3 ?_
  refine wp_of (uf_X1_call _ _ _ _ _ _ _ _ _ _) ?_
  refine wp_of (uf_X1_call_6 _ _ _ _ _ _ _ _ _ _ _ _) ?_
  refine wp_ifn (by decide) ?_
  refine wp_ifn (by decide) ?_
  refine wp_ck (by decide) ?_
  refine wp_ifn (by decide) ?_
  refine wp_ifn (by decide) ?_
  refine wp_ck (by decide) ?_
  refine wp_ck (by decide) ?_
  refine wp_in3 ?_
  refine wp_of (uf_X1_run _ _ _ _ _ _ _ _ _ _) ?_
  refine wp_of (uf_X1_runo _ _ _ _ _ _ _ _ _ _) ?_
  refine wp_in2 ?_
  refine wp_of (uf_X1_note _ _ _ _) ?_
  refine wp_ifn (by decide) ?_
  refine wp_ck (i_inb (by decide) (by rw [show ((((0 : Int32) + (1 : Int32)) + (1 : Int32))).toInt = 2 from by decide]; (try simp only [is_len]); omega)) ?_
  refine wp_nm (fun y9 h9 => ?_)
  subst h9
  refine wp_of (uf_X1_note_19 _ _ _) ?_
  refine wp_nm (fun y10 h10 => ?_)
  subst h10
  refine wp_so2 ?_
  show wp _ _
  refine wp_ifn (by decide) ?_
  refine wp_ifn (by decide) ?_
  refine wp_ifn (by decide) ?_
  refine wp_ifn (by decide) ?_
  refine wp_ifp (by decide) ?_
  refine wp_in3 ?_
  refine wp_of (uf_X1_call _ _ _ _ _ _ _ _ _ _) ?_
  refine wp_of (uf_X1_call_6 _ _ _ _ _ _ _ _ _ _ _ _) ?_
  refine wp_ifn (by decide) ?_
  refine wp_ifn (by decide) ?_
  refine wp_ck (by decide) ?_
  refine wp_ifn (by decide) ?_
  refine wp_ifn (by decide) ?_
  refine wp_ck (by decide) ?_
  refine wp_ck (by decide) ?_
  refine wp_in3 ?_
  refine wp_of (uf_X1_run _ _ _ _ _ _ _ _ _ _) ?_
  refine wp_of (uf_X1_runo _ _ _ _ _ _ _ _ _ _) ?_
  refine wp_in2 ?_
  refine wp_of (uf_X1_note _ _ _ _) ?_
  refine wp_ifn (by decide) ?_
  refine wp_ck (i_inb (by decide) (by rw [show (((((0 : Int32) + (1 : Int32)) + (1 : Int32)) + (1 : Int32))).toInt = 3 from by decide]; (try simp only [is_len]); omega)) ?_
  refine wp_nm (fun y11 h11 => ?_)
  subst h11
  refine wp_of (uf_X1_note_19 _ _ _) ?_
  refine wp_nm (fun y12 h12 => ?_)
  subst h12
  refine wp_so2 ?_
  show wp _ _
  refine wp_ifp (by decide) ?_
  refine wp_so3 ?_
  show wp _ _
  refine wp_so3 ?_
  show wp _ _
  refine wp_so3 ?_
  show wp _ _
  refine wp_so3 ?_
  show wp _ _
  refine wp_so3 ?_
  show wp _ _
  refine wp_so3 ?_
  show wp _ _
  refine wp_in3 ?_
  refine wp_of (uf_X1_call _ _ _ _ _ _ _ _ _ _) ?_
  refine wp_of (uf_X1_call_6 _ _ _ _ _ _ _ _ _ _ _ _) ?_
  refine wp_ifn (by decide) ?_
  refine wp_ifn (by decide) ?_
  refine wp_ck (by decide) ?_
  refine wp_ifp (by decide) ?_
  refine wp_ck (by decide) ?_
  refine wp_nm (fun y13 h13 => ?_)
  subst h13
  refine wp_nm (fun y14 h14 => ?_)
  subst h14
  refine wp_of (uf_X1_call_6 _ _ _ _ _ _ _ _ _ _ _ _) ?_
  refine wp_ifn (by decide) ?_
  refine wp_ifn (by decide) ?_
  refine wp_ck (by decide) ?_
  refine wp_ifn (by decide) ?_
  refine wp_ifn (by decide) ?_
  refine wp_ck (by decide) ?_
  refine wp_ck (by decide) ?_
  refine wp_in3 ?_
  refine wp_of (uf_X1_run _ _ _ _ _ _ _ _ _ _) ?_
  refine wp_of (uf_X1_runo _ _ _ _ _ _ _ _ _ _) ?_
  refine wp_in2 ?_
  refine wp_of (uf_X1_note _ _ _ _) ?_
  refine wp_ifn (by decide) ?_
  refine wp_ck (i_inb (by decide) (by rw [show ((((((0 : Int32) + (1 : Int32)) + (1 : Int32)) + (1 : Int32)) + (1 : Int32))).toInt = 4 from by decide]; (try simp only [is_len]); omega)) ?_
  refine wp_nm (fun y15 h15 => ?_)
  subst h15
  refine wp_of (uf_X1_note_19 _ _ _) ?_
  refine wp_nm (fun y16 h16 => ?_)
  subst h16
  refine wp_so2 ?_
  show wp _ _
  refine wp_ifn (by decide) ?_
  refine wp_ifn (by decide) ?_
  refine wp_ifn (by decide) ?_
  refine wp_ifp (by decide) ?_
  refine wp_so3 ?_
  show wp _ _
  refine wp_so3 ?_
  show wp _ _
  refine wp_so3 ?_
  show wp _ _
  exact wp_so3 ⟨rfl, rfl, rfl⟩

set_option maxRecDepth 20000 in
theorem ac8_2_0 (x b : Int32) (tr : List Int32) (hl : tr.length = 24) : wp (fX1_call 700 (fX1_run 700 42) (2 : Int32) (2 : Int32) (0 : Int32) x (0 : Int32) (0 : Int32) b tr) (cu3 (fun r0 r1 r2 => r0 = (x + b) ∧ r1 = ((0 : Int32) + (1 : Int32)) ∧ r2 = (mm_is tr (0 : Int32) (mm_ig mm_OWN (((4 : Int32) * (mm_ig mm_ABOVE (2 : Int32))) + (0 : Int32)))))) := by
  refine wp_of (uf_X1_call _ _ _ _ _ _ _ _ _ _) ?_
  refine wp_of (uf_X1_call_6 _ _ _ _ _ _ _ _ _ _ _ _) ?_
  refine wp_ifn (by decide) ?_
  refine wp_ifn (by decide) ?_
  refine wp_ck (by decide) ?_
  refine wp_ifp (by decide) ?_
  refine wp_ck (by decide) ?_
  refine wp_nm (fun y1 h1 => ?_)
  subst h1
  refine wp_nm (fun y2 h2 => ?_)
  subst h2
  refine wp_of (uf_X1_call_6 _ _ _ _ _ _ _ _ _ _ _ _) ?_
  refine wp_ifn (by decide) ?_
  refine wp_ifn (by decide) ?_
  refine wp_ck (by decide) ?_
  refine wp_ifn (by decide) ?_
  refine wp_ifn (by decide) ?_
  refine wp_ck (by decide) ?_
  refine wp_ck (by decide) ?_
  refine wp_in3 ?_
  refine wp_of (uf_X1_run _ _ _ _ _ _ _ _ _ _) ?_
  refine wp_of (uf_X1_runo _ _ _ _ _ _ _ _ _ _) ?_
  refine wp_in2 ?_
  refine wp_of (uf_X1_note _ _ _ _) ?_
  refine wp_ifn (by decide) ?_
  refine wp_ck (i_inb (by decide) (by rw [show ((0 : Int32)).toInt = 0 from by decide]; (try simp only [is_len]); omega)) ?_
  refine wp_nm (fun y3 h3 => ?_)
  subst h3
  refine wp_of (uf_X1_note_19 _ _ _) ?_
  refine wp_nm (fun y4 h4 => ?_)
  subst h4
  refine wp_so2 ?_
  show wp _ _
  refine wp_ifp (by decide) ?_
  refine wp_so3 ?_
  show wp _ _
  exact wp_so3 ⟨rfl, rfl, rfl⟩

set_option maxRecDepth 20000 in
theorem ac8_2_1 (x b : Int32) (tr : List Int32) (hl : tr.length = 24) : wp (fX1_call 700 (fX1_run 700 42) (2 : Int32) (2 : Int32) (1 : Int32) x (0 : Int32) (0 : Int32) b tr) (cu3 (fun r0 r1 r2 => r0 = (-((x + b) * (2 : Int32))) ∧ r1 = ((((0 : Int32) + (1 : Int32)) + (1 : Int32)) + (1 : Int32)) ∧ r2 = (mm_is (mm_is (mm_is tr (0 : Int32) (mm_ig mm_OWN (((4 : Int32) * (2 : Int32)) + (1 : Int32)))) ((0 : Int32) + (1 : Int32)) (mm_ig mm_OWN (((4 : Int32) * (mm_ig mm_ABOVE (2 : Int32))) + (1 : Int32)))) (((0 : Int32) + (1 : Int32)) + (1 : Int32)) (mm_ig mm_OWN (((4 : Int32) * (mm_ig mm_ABOVE (2 : Int32))) + (0 : Int32)))))) := by
  refine wp_of (uf_X1_call _ _ _ _ _ _ _ _ _ _) ?_
  refine wp_of (uf_X1_call_6 _ _ _ _ _ _ _ _ _ _ _ _) ?_
  refine wp_ifn (by decide) ?_
  refine wp_ifn (by decide) ?_
  refine wp_ck (by decide) ?_
  refine wp_ifn (by decide) ?_
  refine wp_ifn (by decide) ?_
  refine wp_ck (by decide) ?_
  refine wp_ck (by decide) ?_
  refine wp_in3 ?_
  refine wp_of (uf_X1_run _ _ _ _ _ _ _ _ _ _) ?_
  refine wp_of (uf_X1_runo _ _ _ _ _ _ _ _ _ _) ?_
  refine wp_in2 ?_
  refine wp_of (uf_X1_note _ _ _ _) ?_
  refine wp_ifn (by decide) ?_
  refine wp_ck (i_inb (by decide) (by rw [show ((0 : Int32)).toInt = 0 from by decide]; (try simp only [is_len]); omega)) ?_
  refine wp_nm (fun y1 h1 => ?_)
  subst h1
  refine wp_of (uf_X1_note_19 _ _ _) ?_
  refine wp_nm (fun y2 h2 => ?_)
  subst h2
  refine wp_so2 ?_
  show wp _ _
  refine wp_ifn (by decide) ?_
  refine wp_ifn (by decide) ?_
  refine wp_ifn (by decide) ?_
  refine wp_ifn (by decide) ?_
  refine wp_ifn (by decide) ?_
  refine wp_ifp (by decide) ?_
  refine wp_in3 ?_
  refine wp_of (uf_X1_call _ _ _ _ _ _ _ _ _ _) ?_
  refine wp_of (uf_X1_call_6 _ _ _ _ _ _ _ _ _ _ _ _) ?_
  refine wp_ifn (by decide) ?_
  refine wp_ifn (by decide) ?_
  refine wp_ck (by decide) ?_
  refine wp_ifn (by decide) ?_
  refine wp_ifn (by decide) ?_
  refine wp_ck (by decide) ?_
  refine wp_ck (by decide) ?_
  refine wp_in3 ?_
  refine wp_of (uf_X1_run _ _ _ _ _ _ _ _ _ _) ?_
  refine wp_of (uf_X1_runo _ _ _ _ _ _ _ _ _ _) ?_
  refine wp_in2 ?_
  refine wp_of (uf_X1_note _ _ _ _) ?_
  refine wp_ifn (by decide) ?_
  refine wp_ck (i_inb (by decide) (by rw [show (((0 : Int32) + (1 : Int32))).toInt = 1 from by decide]; (try simp only [is_len]); omega)) ?_
  refine wp_nm (fun y3 h3 => ?_)
  subst h3
  refine wp_of (uf_X1_note_19 _ _ _) ?_
  refine wp_nm (fun y4 h4 => ?_)
  subst h4
  refine wp_so2 ?_
  show wp _ _
  refine wp_ifn (by decide) ?_
  refine wp_ifn (by decide) ?_
  refine wp_ifp (by decide) ?_
  refine wp_in3 ?_
  refine wp_of (uf_X1_call _ _ _ _ _ _ _ _ _ _) ?_
  refine wp_of (uf_X1_call_6 _ _ _ _ _ _ _ _ _ _ _ _) ?_
  refine wp_ifn (by decide) ?_
  refine wp_ifn (by decide) ?_
  refine wp_ck (by decide) ?_
  refine wp_ifp (by decide) ?_
  refine wp_ck (by decide) ?_
  refine wp_nm (fun y5 h5 => ?_)
  subst h5
  refine wp_nm (fun y6 h6 => ?_)
  subst h6
  refine wp_of (uf_X1_call_6 _ _ _ _ _ _ _ _ _ _ _ _) ?_
  refine wp_ifn (by decide) ?_
  refine wp_ifn (by decide) ?_
  refine wp_ck (by decide) ?_
  refine wp_ifn (by decide) ?_
  refine wp_ifn (by decide) ?_
  refine wp_ck (by decide) ?_
  refine wp_ck (by decide) ?_
  refine wp_in3 ?_
  refine wp_of (uf_X1_run _ _ _ _ _ _ _ _ _ _) ?_
  refine wp_of (uf_X1_runo _ _ _ _ _ _ _ _ _ _) ?_
  refine wp_in2 ?_
  refine wp_of (uf_X1_note _ _ _ _) ?_
  refine wp_ifn (by decide) ?_
  refine wp_ck (i_inb (by decide) (by rw [show ((((0 : Int32) + (1 : Int32)) + (1 : Int32))).toInt = 2 from by decide]; (try simp only [is_len]); omega)) ?_
  refine wp_nm (fun y7 h7 => ?_)
  subst h7
  refine wp_of (uf_X1_note_19 _ _ _) ?_
  refine wp_nm (fun y8 h8 => ?_)
  subst h8
  refine wp_so2 ?_
  show wp _ _
  refine wp_ifp (by decide) ?_
  refine wp_so3 ?_
  show wp _ _
  refine wp_so3 ?_
  show wp _ _
  refine wp_so3 ?_
  show wp _ _
  refine wp_so3 ?_
  show wp _ _
  refine wp_so3 ?_
  show wp _ _
  exact wp_so3 ⟨rfl, rfl, rfl⟩

set_option maxRecDepth 20000 in
theorem ac8_2_2 (x b : Int32) (tr : List Int32) (hl : tr.length = 24) : wp (fX1_call 700 (fX1_run 700 42) (2 : Int32) (2 : Int32) (2 : Int32) x (0 : Int32) (0 : Int32) b tr) (cu3 (fun r0 r1 r2 => r0 = (x ^^^ b) ∧ r1 = ((0 : Int32) + (1 : Int32)) ∧ r2 = (mm_is tr (0 : Int32) (mm_ig mm_OWN (((4 : Int32) * (mm_ig mm_ABOVE (2 : Int32))) + (2 : Int32)))))) := by
  refine wp_of (uf_X1_call _ _ _ _ _ _ _ _ _ _) ?_
  refine wp_of (uf_X1_call_6 _ _ _ _ _ _ _ _ _ _ _ _) ?_
  refine wp_ifn (by decide) ?_
  refine wp_ifn (by decide) ?_
  refine wp_ck (by decide) ?_
  refine wp_ifp (by decide) ?_
  refine wp_ck (by decide) ?_
  refine wp_nm (fun y1 h1 => ?_)
  subst h1
  refine wp_nm (fun y2 h2 => ?_)
  subst h2
  refine wp_of (uf_X1_call_6 _ _ _ _ _ _ _ _ _ _ _ _) ?_
  refine wp_ifn (by decide) ?_
  refine wp_ifn (by decide) ?_
  refine wp_ck (by decide) ?_
  refine wp_ifn (by decide) ?_
  refine wp_ifn (by decide) ?_
  refine wp_ck (by decide) ?_
  refine wp_ck (by decide) ?_
  refine wp_in3 ?_
  refine wp_of (uf_X1_run _ _ _ _ _ _ _ _ _ _) ?_
  refine wp_of (uf_X1_runo _ _ _ _ _ _ _ _ _ _) ?_
  refine wp_in2 ?_
  refine wp_of (uf_X1_note _ _ _ _) ?_
  refine wp_ifn (by decide) ?_
  refine wp_ck (i_inb (by decide) (by rw [show ((0 : Int32)).toInt = 0 from by decide]; (try simp only [is_len]); omega)) ?_
  refine wp_nm (fun y3 h3 => ?_)
  subst h3
  refine wp_of (uf_X1_note_19 _ _ _) ?_
  refine wp_nm (fun y4 h4 => ?_)
  subst h4
  refine wp_so2 ?_
  show wp _ _
  refine wp_ifn (by decide) ?_
  refine wp_ifn (by decide) ?_
  refine wp_ifn (by decide) ?_
  refine wp_ifp (by decide) ?_
  refine wp_so3 ?_
  show wp _ _
  exact wp_so3 ⟨rfl, rfl, rfl⟩

set_option maxRecDepth 20000 in
theorem ac8_2_3 (x b : Int32) (tr : List Int32) (hl : tr.length = 24) : wp (fX1_call 700 (fX1_run 700 42) (2 : Int32) (2 : Int32) (3 : Int32) x (0 : Int32) (0 : Int32) b tr) (cu3 (fun r0 r1 r2 => r0 = ((-((x + b) * (2 : Int32))) - ((1 : Int32) ^^^ b)) ∧ r1 = ((((((0 : Int32) + (1 : Int32)) + (1 : Int32)) + (1 : Int32)) + (1 : Int32)) + (1 : Int32)) ∧ r2 = (mm_is (mm_is (mm_is (mm_is (mm_is tr (0 : Int32) (mm_ig mm_OWN (((4 : Int32) * (mm_ig mm_ABOVE (2 : Int32))) + (3 : Int32)))) ((0 : Int32) + (1 : Int32)) (mm_ig mm_OWN (((4 : Int32) * (2 : Int32)) + (1 : Int32)))) (((0 : Int32) + (1 : Int32)) + (1 : Int32)) (mm_ig mm_OWN (((4 : Int32) * (mm_ig mm_ABOVE (2 : Int32))) + (1 : Int32)))) ((((0 : Int32) + (1 : Int32)) + (1 : Int32)) + (1 : Int32)) (mm_ig mm_OWN (((4 : Int32) * (mm_ig mm_ABOVE (2 : Int32))) + (0 : Int32)))) (((((0 : Int32) + (1 : Int32)) + (1 : Int32)) + (1 : Int32)) + (1 : Int32)) (mm_ig mm_OWN (((4 : Int32) * (mm_ig mm_ABOVE (2 : Int32))) + (2 : Int32)))))) := by
  refine wp_of (uf_X1_call _ _ _ _ _ _ _ _ _ _) ?_
  refine wp_of (uf_X1_call_6 _ _ _ _ _ _ _ _ _ _ _ _) ?_
  refine wp_ifn (by decide) ?_
  refine wp_ifn (by decide) ?_
  refine wp_ck (by decide) ?_
  refine wp_ifp (by decide) ?_
  refine wp_ck (by decide) ?_
  refine wp_nm (fun y1 h1 => ?_)
  subst h1
  refine wp_nm (fun y2 h2 => ?_)
  subst h2
  refine wp_of (uf_X1_call_6 _ _ _ _ _ _ _ _ _ _ _ _) ?_
  refine wp_ifn (by decide) ?_
  refine wp_ifn (by decide) ?_
  refine wp_ck (by decide) ?_
  refine wp_ifn (by decide) ?_
  refine wp_ifn (by decide) ?_
  refine wp_ck (by decide) ?_
  refine wp_ck (by decide) ?_
  refine wp_in3 ?_
  refine wp_of (uf_X1_run _ _ _ _ _ _ _ _ _ _) ?_
  refine wp_of (uf_X1_runo _ _ _ _ _ _ _ _ _ _) ?_
  refine wp_in2 ?_
  refine wp_of (uf_X1_note _ _ _ _) ?_
  refine wp_ifn (by decide) ?_
  refine wp_ck (i_inb (by decide) (by rw [show ((0 : Int32)).toInt = 0 from by decide]; (try simp only [is_len]); omega)) ?_
  refine wp_nm (fun y3 h3 => ?_)
  subst h3
  refine wp_of (uf_X1_note_19 _ _ _) ?_
  refine wp_nm (fun y4 h4 => ?_)
  subst h4
  refine wp_so2 ?_
  show wp _ _
  refine wp_ifn (by decide) ?_
  refine wp_ifp (by decide) ?_
  refine wp_in3 ?_
  refine wp_of (uf_X1_call _ _ _ _ _ _ _ _ _ _) ?_
  refine wp_of (uf_X1_call_6 _ _ _ _ _ _ _ _ _ _ _ _) ?_
  refine wp_ifn (by decide) ?_
  refine wp_ifn (by decide) ?_
  refine wp_ck (by decide) ?_
  refine wp_ifn (by decide) ?_
  refine wp_ifn (by decide) ?_
  refine wp_ck (by decide) ?_
  refine wp_ck (by decide) ?_
  refine wp_in3 ?_
  refine wp_of (uf_X1_run _ _ _ _ _ _ _ _ _ _) ?_
  refine wp_of (uf_X1_runo _ _ _ _ _ _ _ _ _ _) ?_
  refine wp_in2 ?_
  refine wp_of (uf_X1_note _ _ _ _) ?_
  refine wp_ifn (by decide) ?_
  refine wp_ck (i_inb (by decide) (by rw [show (((0 : Int32) + (1 : Int32))).toInt = 1 from by decide]; (try simp only [is_len]); omega)) ?_
  refine wp_nm (fun y5 h5 => ?_)
  subst h5
  refine wp_of (uf_X1_note_19 _ _ _) ?_
  refine wp_nm (fun y6 h6 => ?_)
  subst h6
  refine wp_so2 ?_
  show wp _ _
  refine wp_ifn (by decide) ?_
  refine wp_ifn (by decide) ?_
  refine wp_ifn (by decide) ?_
  refine wp_ifn (by decide) ?_
  refine wp_ifn (by decide) ?_
  refine wp_ifp (by decide) ?_
  refine wp_in3 ?_
  refine wp_of (uf_X1_call _ _ _ _ _ _ _ _ _ _) ?_
  refine wp_of (uf_X1_call_6 _ _ _ _ _ _ _ _ _ _ _ _) ?_
  refine wp_ifn (by decide) ?_
  refine wp_ifn (by decide) ?_
  refine wp_ck (by decide) ?_
  refine wp_ifn (by decide) ?_
  refine wp_ifn (by decide) ?_
  refine wp_ck (by decide) ?_
  refine wp_ck (by decide) ?_
  refine wp_in3 ?_
  refine wp_of (uf_X1_run _ _ _ _ _ _ _ _ _ _) ?_
  refine wp_of (uf_X1_runo _ _ _ _ _ _ _ _ _ _) ?_
  refine wp_in2 ?_
  refine wp_of (uf_X1_note _ _ _ _) ?_
  refine wp_ifn (by decide) ?_
  refine wp_ck (i_inb (by decide) (by rw [show ((((0 : Int32) + (1 : Int32)) + (1 : Int32))).toInt = 2 from by decide]; (try simp only [is_len]); omega)) ?_
  refine wp_nm (fun y7 h7 => ?_)
  subst h7
  refine wp_of (uf_X1_note_19 _ _ _) ?_
  refine wp_nm (fun y8 h8 => ?_)
  subst h8
  refine wp_so2 ?_
  show wp _ _
  refine wp_ifn (by decide) ?_
  refine wp_ifn (by decide) ?_
  refine wp_ifp (by decide) ?_
  refine wp_in3 ?_
  refine wp_of (uf_X1_call _ _ _ _ _ _ _ _ _ _) ?_
  refine wp_of (uf_X1_call_6 _ _ _ _ _ _ _ _ _ _ _ _) ?_
  refine wp_ifn (by decide) ?_
  refine wp_ifn (by decide) ?_
  refine wp_ck (by decide) ?_
  refine wp_ifp (by decide) ?_
  refine wp_ck (by decide) ?_
  refine wp_nm (fun y9 h9 => ?_)
  subst h9
  refine wp_nm (fun y10 h10 => ?_)
  subst h10
  refine wp_of (uf_X1_call_6 _ _ _ _ _ _ _ _ _ _ _ _) ?_
  refine wp_ifn (by decide) ?_
  refine wp_ifn (by decide) ?_
  refine wp_ck (by decide) ?_
  refine wp_ifn (by decide) ?_
  refine wp_ifn (by decide) ?_
  refine wp_ck (by decide) ?_
  refine wp_ck (by decide) ?_
  refine wp_in3 ?_
  refine wp_of (uf_X1_run _ _ _ _ _ _ _ _ _ _) ?_
  refine wp_of (uf_X1_runo _ _ _ _ _ _ _ _ _ _) ?_
  refine wp_in2 ?_
  refine wp_of (uf_X1_note _ _ _ _) ?_
  refine wp_ifn (by decide) ?_
  refine wp_ck (i_inb (by decide) (by rw [show (((((0 : Int32) + (1 : Int32)) + (1 : Int32)) + (1 : Int32))).toInt = 3 from by decide]; (try simp only [is_len]); omega)) ?_
  refine wp_nm (fun y11 h11 => ?_)
  subst h11
  refine wp_of (uf_X1_note_19 _ _ _) ?_
  refine wp_nm (fun y12 h12 => ?_)
  subst h12
  refine wp_so2 ?_
  show wp _ _
  refine wp_ifp (by decide) ?_
  refine wp_so3 ?_
  show wp _ _
  refine wp_so3 ?_
  show wp _ _
  refine wp_so3 ?_
  show wp _ _
  refine wp_so3 ?_
  show wp _ _
  refine wp_so3 ?_
  show wp _ _
  refine wp_so3 ?_
  show wp _ _
  refine wp_in3 ?_
  refine wp_of (uf_X1_call _ _ _ _ _ _ _ _ _ _) ?_
  refine wp_of (uf_X1_call_6 _ _ _ _ _ _ _ _ _ _ _ _) ?_
  refine wp_ifn (by decide) ?_
  refine wp_ifn (by decide) ?_
  refine wp_ck (by decide) ?_
  refine wp_ifp (by decide) ?_
  refine wp_ck (by decide) ?_
  refine wp_nm (fun y13 h13 => ?_)
  subst h13
  refine wp_nm (fun y14 h14 => ?_)
  subst h14
  refine wp_of (uf_X1_call_6 _ _ _ _ _ _ _ _ _ _ _ _) ?_
  refine wp_ifn (by decide) ?_
  refine wp_ifn (by decide) ?_
  refine wp_ck (by decide) ?_
  refine wp_ifn (by decide) ?_
  refine wp_ifn (by decide) ?_
  refine wp_ck (by decide) ?_
  refine wp_ck (by decide) ?_
  refine wp_in3 ?_
  refine wp_of (uf_X1_run _ _ _ _ _ _ _ _ _ _) ?_
  refine wp_of (uf_X1_runo _ _ _ _ _ _ _ _ _ _) ?_
  refine wp_in2 ?_
  refine wp_of (uf_X1_note _ _ _ _) ?_
  refine wp_ifn (by decide) ?_
  refine wp_ck (i_inb (by decide) (by rw [show ((((((0 : Int32) + (1 : Int32)) + (1 : Int32)) + (1 : Int32)) + (1 : Int32))).toInt = 4 from by decide]; (try simp only [is_len]); omega)) ?_
  refine wp_nm (fun y15 h15 => ?_)
  subst h15
  refine wp_of (uf_X1_note_19 _ _ _) ?_
  refine wp_nm (fun y16 h16 => ?_)
  subst h16
  refine wp_so2 ?_
  show wp _ _
  refine wp_ifn (by decide) ?_
  refine wp_ifn (by decide) ?_
  refine wp_ifn (by decide) ?_
  refine wp_ifp (by decide) ?_
  refine wp_so3 ?_
  show wp _ _
  refine wp_so3 ?_
  show wp _ _
  refine wp_so3 ?_
  show wp _ _
  exact wp_so3 ⟨rfl, rfl, rfl⟩

set_option maxRecDepth 20000 in
theorem ac8_3_0 (x b : Int32) (tr : List Int32) (hl : tr.length = 24) : wp (fX1_call 700 (fX1_run 700 42) (3 : Int32) (3 : Int32) (0 : Int32) x (0 : Int32) (0 : Int32) b tr) (cu3 (fun r0 r1 r2 => r0 = (x + b) ∧ r1 = ((0 : Int32) + (1 : Int32)) ∧ r2 = (mm_is tr (0 : Int32) (mm_ig mm_OWN (((4 : Int32) * (mm_ig mm_ABOVE (mm_ig mm_ABOVE (3 : Int32)))) + (0 : Int32)))))) := by
  refine wp_of (uf_X1_call _ _ _ _ _ _ _ _ _ _) ?_
  refine wp_of (uf_X1_call_6 _ _ _ _ _ _ _ _ _ _ _ _) ?_
  refine wp_ifn (by decide) ?_
  refine wp_ifn (by decide) ?_
  refine wp_ck (by decide) ?_
  refine wp_ifp (by decide) ?_
  refine wp_ck (by decide) ?_
  refine wp_nm (fun y1 h1 => ?_)
  subst h1
  refine wp_nm (fun y2 h2 => ?_)
  subst h2
  refine wp_of (uf_X1_call_6 _ _ _ _ _ _ _ _ _ _ _ _) ?_
  refine wp_ifn (by decide) ?_
  refine wp_ifn (by decide) ?_
  refine wp_ck (by decide) ?_
  refine wp_ifp (by decide) ?_
  refine wp_ck (by decide) ?_
  refine wp_nm (fun y3 h3 => ?_)
  subst h3
  refine wp_nm (fun y4 h4 => ?_)
  subst h4
  refine wp_of (uf_X1_call_6 _ _ _ _ _ _ _ _ _ _ _ _) ?_
  refine wp_ifn (by decide) ?_
  refine wp_ifn (by decide) ?_
  refine wp_ck (by decide) ?_
  refine wp_ifn (by decide) ?_
  refine wp_ifn (by decide) ?_
  refine wp_ck (by decide) ?_
  refine wp_ck (by decide) ?_
  refine wp_in3 ?_
  refine wp_of (uf_X1_run _ _ _ _ _ _ _ _ _ _) ?_
  refine wp_of (uf_X1_runo _ _ _ _ _ _ _ _ _ _) ?_
  refine wp_in2 ?_
  refine wp_of (uf_X1_note _ _ _ _) ?_
  refine wp_ifn (by decide) ?_
  refine wp_ck (i_inb (by decide) (by rw [show ((0 : Int32)).toInt = 0 from by decide]; (try simp only [is_len]); omega)) ?_
  refine wp_nm (fun y5 h5 => ?_)
  subst h5
  refine wp_of (uf_X1_note_19 _ _ _) ?_
  refine wp_nm (fun y6 h6 => ?_)
  subst h6
  refine wp_so2 ?_
  show wp _ _
  refine wp_ifp (by decide) ?_
  refine wp_so3 ?_
  show wp _ _
  exact wp_so3 ⟨rfl, rfl, rfl⟩

set_option maxRecDepth 20000 in
theorem ac8_3_1 (x b : Int32) (tr : List Int32) (hl : tr.length = 24) : wp (fX1_call 700 (fX1_run 700 42) (3 : Int32) (3 : Int32) (1 : Int32) x (0 : Int32) (0 : Int32) b tr) (cu3 (fun r0 r1 r2 => r0 = (-(((x + (1 : Int32)) + b) * (2 : Int32))) ∧ r1 = (((((0 : Int32) + (1 : Int32)) + (1 : Int32)) + (1 : Int32)) + (1 : Int32)) ∧ r2 = (mm_is (mm_is (mm_is (mm_is tr (0 : Int32) (mm_ig mm_OWN (((4 : Int32) * (3 : Int32)) + (1 : Int32)))) ((0 : Int32) + (1 : Int32)) (mm_ig mm_OWN (((4 : Int32) * (mm_ig mm_ABOVE (3 : Int32))) + (1 : Int32)))) (((0 : Int32) + (1 : Int32)) + (1 : Int32)) (mm_ig mm_OWN (((4 : Int32) * (mm_ig mm_ABOVE (mm_ig mm_ABOVE (3 : Int32)))) + (1 : Int32)))) ((((0 : Int32) + (1 : Int32)) + (1 : Int32)) + (1 : Int32)) (mm_ig mm_OWN (((4 : Int32) * (mm_ig mm_ABOVE (mm_ig mm_ABOVE (3 : Int32)))) + (0 : Int32)))))) := by
  refine wp_of (uf_X1_call _ _ _ _ _ _ _ _ _ _) ?_
  refine wp_of (uf_X1_call_6 _ _ _ _ _ _ _ _ _ _ _ _) ?_
  refine wp_ifn (by decide) ?_
  refine wp_ifn (by decide) ?_
  refine wp_ck (by decide) ?_
  refine wp_ifn (by decide) ?_
  refine wp_ifn (by decide) ?_
  refine wp_ck (by decide) ?_
  refine wp_ck (by decide) ?_
  refine wp_in3 ?_
  refine wp_of (uf_X1_run _ _ _ _ _ _ _ _ _ _) ?_
  refine wp_of (uf_X1_runo _ _ _ _ _ _ _ _ _ _) ?_
  refine wp_in2 ?_
  refine wp_of (uf_X1_note _ _ _ _) ?_
  refine wp_ifn (by decide) ?_
  refine wp_ck (i_inb (by decide) (by rw [show ((0 : Int32)).toInt = 0 from by decide]; (try simp only [is_len]); omega)) ?_
  refine wp_nm (fun y1 h1 => ?_)
  subst h1
  refine wp_of (uf_X1_note_19 _ _ _) ?_
  refine wp_nm (fun y2 h2 => ?_)
  subst h2
  refine wp_so2 ?_
  show wp _ _
  refine wp_ifn (by decide) ?_
  refine wp_ifn (by decide) ?_
  refine wp_ifn (by decide) ?_
  refine wp_ifn (by decide) ?_
  refine wp_ifn (by decide) ?_
  refine wp_ifn (by decide) ?_
  refine wp_ifn (by decide) ?_
  refine wp_ifp (by decide) ?_
  refine wp_in3 ?_
  refine wp_of (uf_X1_call _ _ _ _ _ _ _ _ _ _) ?_
  refine wp_of (uf_X1_call_6 _ _ _ _ _ _ _ _ _ _ _ _) ?_
  refine wp_ifn (by decide) ?_
  refine wp_ifn (by decide) ?_
  refine wp_ck (by decide) ?_
  refine wp_ifn (by decide) ?_
  refine wp_ifn (by decide) ?_
  refine wp_ck (by decide) ?_
  refine wp_ck (by decide) ?_
  refine wp_in3 ?_
  refine wp_of (uf_X1_run _ _ _ _ _ _ _ _ _ _) ?_
  refine wp_of (uf_X1_runo _ _ _ _ _ _ _ _ _ _) ?_
  refine wp_in2 ?_
  refine wp_of (uf_X1_note _ _ _ _) ?_
  refine wp_ifn (by decide) ?_
  refine wp_ck (i_inb (by decide) (by rw [show (((0 : Int32) + (1 : Int32))).toInt = 1 from by decide]; (try simp only [is_len]); omega)) ?_
  refine wp_nm (fun y3 h3 => ?_)
  subst h3
  refine wp_of (uf_X1_note_19 _ _ _) ?_
  refine wp_nm (fun y4 h4 => ?_)
  subst h4
  refine wp_so2 ?_
  show wp _ _
  refine wp_ifn (by decide) ?_
  refine wp_ifn (by decide) ?_
  refine wp_ifn (by decide) ?_
  refine wp_ifn (by decide) ?_
  refine wp_ifn (by decide) ?_
  refine wp_ifp (by decide) ?_
  refine wp_in3 ?_
  refine wp_of (uf_X1_call _ _ _ _ _ _ _ _ _ _) ?_
  refine wp_of (uf_X1_call_6 _ _ _ _ _ _ _ _ _ _ _ _) ?_
  refine wp_ifn (by decide) ?_
  refine wp_ifn (by decide) ?_
  refine wp_ck (by decide) ?_
  refine wp_ifn (by decide) ?_
  refine wp_ifn (by decide) ?_
  refine wp_ck (by decide) ?_
  refine wp_ck (by decide) ?_
  refine wp_in3 ?_
  refine wp_of (uf_X1_run _ _ _ _ _ _ _ _ _ _) ?_
  refine wp_of (uf_X1_runo _ _ _ _ _ _ _ _ _ _) ?_
  refine wp_in2 ?_
  refine wp_of (uf_X1_note _ _ _ _) ?_
  refine wp_ifn (by decide) ?_
  refine wp_ck (i_inb (by decide) (by rw [show ((((0 : Int32) + (1 : Int32)) + (1 : Int32))).toInt = 2 from by decide]; (try simp only [is_len]); omega)) ?_
  refine wp_nm (fun y5 h5 => ?_)
  subst h5
  refine wp_of (uf_X1_note_19 _ _ _) ?_
  refine wp_nm (fun y6 h6 => ?_)
  subst h6
  refine wp_so2 ?_
  show wp _ _
  refine wp_ifn (by decide) ?_
  refine wp_ifn (by decide) ?_
  refine wp_ifp (by decide) ?_
  refine wp_in3 ?_
  refine wp_of (uf_X1_call _ _ _ _ _ _ _ _ _ _) ?_
  refine wp_of (uf_X1_call_6 _ _ _ _ _ _ _ _ _ _ _ _) ?_
  refine wp_ifn (by decide) ?_
  refine wp_ifn (by decide) ?_
  refine wp_ck (by decide) ?_
  refine wp_ifp (by decide) ?_
  refine wp_ck (by decide) ?_
  refine wp_nm (fun y7 h7 => ?_)
  subst h7
  refine wp_nm (fun y8 h8 => ?_)
  subst h8
  refine wp_of (uf_X1_call_6 _ _ _ _ _ _ _ _ _ _ _ _) ?_
  refine wp_ifn (by decide) ?_
  refine wp_ifn (by decide) ?_
  refine wp_ck (by decide) ?_
  refine wp_ifp (by decide) ?_
  refine wp_ck (by decide) ?_
  refine wp_nm (fun y9 h9 => ?_)
  subst h9
  refine wp_nm (fun y10 h10 => ?_)
  subst h10
  refine wp_of (uf_X1_call_6 _ _ _ _ _ _ _ _ _ _ _ _) ?_
  refine wp_ifn (by decide) ?_
  refine wp_ifn (by decide) ?_
  refine wp_ck (by decide) ?_
  refine wp_ifn (by decide) ?_
  refine wp_ifn (by decide) ?_
  refine wp_ck (by decide) ?_
  refine wp_ck (by decide) ?_
  refine wp_in3 ?_
  refine wp_of (uf_X1_run _ _ _ _ _ _ _ _ _ _) ?_
  refine wp_of (uf_X1_runo _ _ _ _ _ _ _ _ _ _) ?_
  refine wp_in2 ?_
  refine wp_of (uf_X1_note _ _ _ _) ?_
  refine wp_ifn (by decide) ?_
  refine wp_ck (i_inb (by decide) (by rw [show (((((0 : Int32) + (1 : Int32)) + (1 : Int32)) + (1 : Int32))).toInt = 3 from by decide]; (try simp only [is_len]); omega)) ?_
  refine wp_nm (fun y11 h11 => ?_)
  subst h11
  refine wp_of (uf_X1_note_19 _ _ _) ?_
  refine wp_nm (fun y12 h12 => ?_)
  subst h12
  refine wp_so2 ?_
  show wp _ _
  refine wp_ifp (by decide) ?_
  refine wp_so3 ?_
  show wp _ _
  refine wp_so3 ?_
  show wp _ _
  refine wp_so3 ?_
  show wp _ _
  refine wp_so3 ?_
  show wp _ _
  refine wp_so3 ?_
  show wp _ _
  refine wp_so3 ?_
  show wp _ _
  refine wp_so3 ?_
  show wp _ _
  exact wp_so3 ⟨rfl, rfl, rfl⟩

set_option maxRecDepth 20000 in
theorem ac8_3_2 (x b : Int32) (tr : List Int32) (hl : tr.length = 24) : wp (fX1_call 700 (fX1_run 700 42) (3 : Int32) (3 : Int32) (2 : Int32) x (0 : Int32) (0 : Int32) b tr) (cu3 (fun r0 r1 r2 => r0 = ((x ^^^ b) * (3 : Int32)) ∧ r1 = (((0 : Int32) + (1 : Int32)) + (1 : Int32)) ∧ r2 = (mm_is (mm_is tr (0 : Int32) (mm_ig mm_OWN (((4 : Int32) * (3 : Int32)) + (2 : Int32)))) ((0 : Int32) + (1 : Int32)) (mm_ig mm_OWN (((4 : Int32) * (mm_ig mm_ABOVE (mm_ig mm_ABOVE (3 : Int32)))) + (2 : Int32)))))) := by
  refine wp_of (uf_X1_call _ _ _ _ _ _ _ _ _ _) ?_
  refine wp_of (uf_X1_call_6 _ _ _ _ _ _ _ _ _ _ _ _) ?_
  refine wp_ifn (by decide) ?_
  refine wp_ifn (by decide) ?_
  refine wp_ck (by decide) ?_
  refine wp_ifn (by decide) ?_
  refine wp_ifn (by decide) ?_
  refine wp_ck (by decide) ?_
  refine wp_ck (by decide) ?_
  refine wp_in3 ?_
  refine wp_of (uf_X1_run _ _ _ _ _ _ _ _ _ _) ?_
  refine wp_of (uf_X1_runo _ _ _ _ _ _ _ _ _ _) ?_
  refine wp_in2 ?_
  refine wp_of (uf_X1_note _ _ _ _) ?_
  refine wp_ifn (by decide) ?_
  refine wp_ck (i_inb (by decide) (by rw [show ((0 : Int32)).toInt = 0 from by decide]; (try simp only [is_len]); omega)) ?_
  refine wp_nm (fun y1 h1 => ?_)
  subst h1
  refine wp_of (uf_X1_note_19 _ _ _) ?_
  refine wp_nm (fun y2 h2 => ?_)
  subst h2
  refine wp_so2 ?_
  show wp _ _
  refine wp_ifn (by decide) ?_
  refine wp_ifn (by decide) ?_
  refine wp_ifn (by decide) ?_
  refine wp_ifn (by decide) ?_
  refine wp_ifn (by decide) ?_
  refine wp_ifn (by decide) ?_
  refine wp_ifp (by decide) ?_
  refine wp_in3 ?_
  refine wp_of (uf_X1_call _ _ _ _ _ _ _ _ _ _) ?_
  refine wp_of (uf_X1_call_6 _ _ _ _ _ _ _ _ _ _ _ _) ?_
  refine wp_ifn (by decide) ?_
  refine wp_ifn (by decide) ?_
  refine wp_ck (by decide) ?_
  refine wp_ifp (by decide) ?_
  refine wp_ck (by decide) ?_
  refine wp_nm (fun y3 h3 => ?_)
  subst h3
  refine wp_nm (fun y4 h4 => ?_)
  subst h4
  refine wp_of (uf_X1_call_6 _ _ _ _ _ _ _ _ _ _ _ _) ?_
  refine wp_ifn (by decide) ?_
  refine wp_ifn (by decide) ?_
  refine wp_ck (by decide) ?_
  refine wp_ifn (by decide) ?_
  refine wp_ifn (by decide) ?_
  refine wp_ck (by decide) ?_
  refine wp_ck (by decide) ?_
  refine wp_in3 ?_
  refine wp_of (uf_X1_run _ _ _ _ _ _ _ _ _ _) ?_
  refine wp_of (uf_X1_runo _ _ _ _ _ _ _ _ _ _) ?_
  refine wp_in2 ?_
  refine wp_of (uf_X1_note _ _ _ _) ?_
  refine wp_ifn (by decide) ?_
  refine wp_ck (i_inb (by decide) (by rw [show (((0 : Int32) + (1 : Int32))).toInt = 1 from by decide]; (try simp only [is_len]); omega)) ?_
  refine wp_nm (fun y5 h5 => ?_)
  subst h5
  refine wp_of (uf_X1_note_19 _ _ _) ?_
  refine wp_nm (fun y6 h6 => ?_)
  subst h6
  refine wp_so2 ?_
  show wp _ _
  refine wp_ifn (by decide) ?_
  refine wp_ifn (by decide) ?_
  refine wp_ifn (by decide) ?_
  refine wp_ifp (by decide) ?_
  refine wp_so3 ?_
  show wp _ _
  refine wp_so3 ?_
  show wp _ _
  refine wp_so3 ?_
  show wp _ _
  exact wp_so3 ⟨rfl, rfl, rfl⟩

set_option maxRecDepth 20000 in
theorem ac8_3_3 (x b : Int32) (tr : List Int32) (hl : tr.length = 24) : wp (fX1_call 700 (fX1_run 700 42) (3 : Int32) (3 : Int32) (3 : Int32) x (0 : Int32) (0 : Int32) b tr) (cu3 (fun r0 r1 r2 => r0 = ((-(((x + (1 : Int32)) + b) * (2 : Int32))) - (((1 : Int32) ^^^ b) * (3 : Int32))) ∧ r1 = ((((((((0 : Int32) + (1 : Int32)) + (1 : Int32)) + (1 : Int32)) + (1 : Int32)) + (1 : Int32)) + (1 : Int32)) + (1 : Int32)) ∧ r2 = (mm_is (mm_is (mm_is (mm_is (mm_is (mm_is (mm_is tr (0 : Int32) (mm_ig mm_OWN (((4 : Int32) * (mm_ig mm_ABOVE (mm_ig mm_ABOVE (3 : Int32)))) + (3 : Int32)))) ((0 : Int32) + (1 : Int32)) (mm_ig mm_OWN (((4 : Int32) * (3 : Int32)) + (1 : Int32)))) (((0 : Int32) + (1 : Int32)) + (1 : Int32)) (mm_ig mm_OWN (((4 : Int32) * (mm_ig mm_ABOVE (3 : Int32))) + (1 : Int32)))) ((((0 : Int32) + (1 : Int32)) + (1 : Int32)) + (1 : Int32)) (mm_ig mm_OWN (((4 : Int32) * (mm_ig mm_ABOVE (mm_ig mm_ABOVE (3 : Int32)))) + (1 : Int32)))) (((((0 : Int32) + (1 : Int32)) + (1 : Int32)) + (1 : Int32)) + (1 : Int32)) (mm_ig mm_OWN (((4 : Int32) * (mm_ig mm_ABOVE (mm_ig mm_ABOVE (3 : Int32)))) + (0 : Int32)))) ((((((0 : Int32) + (1 : Int32)) + (1 : Int32)) + (1 : Int32)) + (1 : Int32)) + (1 : Int32)) (mm_ig mm_OWN (((4 : Int32) * (3 : Int32)) + (2 : Int32)))) (((((((0 : Int32) + (1 : Int32)) + (1 : Int32)) + (1 : Int32)) + (1 : Int32)) + (1 : Int32)) + (1 : Int32)) (mm_ig mm_OWN (((4 : Int32) * (mm_ig mm_ABOVE (mm_ig mm_ABOVE (3 : Int32)))) + (2 : Int32)))))) := by
  refine wp_of (uf_X1_call _ _ _ _ _ _ _ _ _ _) ?_
  refine wp_of (uf_X1_call_6 _ _ _ _ _ _ _ _ _ _ _ _) ?_
  refine wp_ifn (by decide) ?_
  refine wp_ifn (by decide) ?_
  refine wp_ck (by decide) ?_
  refine wp_ifp (by decide) ?_
  refine wp_ck (by decide) ?_
  refine wp_nm (fun y1 h1 => ?_)
  subst h1
  refine wp_nm (fun y2 h2 => ?_)
  subst h2
  refine wp_of (uf_X1_call_6 _ _ _ _ _ _ _ _ _ _ _ _) ?_
  refine wp_ifn (by decide) ?_
  refine wp_ifn (by decide) ?_
  refine wp_ck (by decide) ?_
  refine wp_ifp (by decide) ?_
  refine wp_ck (by decide) ?_
  refine wp_nm (fun y3 h3 => ?_)
  subst h3
  refine wp_nm (fun y4 h4 => ?_)
  subst h4
  refine wp_of (uf_X1_call_6 _ _ _ _ _ _ _ _ _ _ _ _) ?_
  refine wp_ifn (by decide) ?_
  refine wp_ifn (by decide) ?_
  refine wp_ck (by decide) ?_
  refine wp_ifn (by decide) ?_
  refine wp_ifn (by decide) ?_
  refine wp_ck (by decide) ?_
  refine wp_ck (by decide) ?_
  refine wp_in3 ?_
  refine wp_of (uf_X1_run _ _ _ _ _ _ _ _ _ _) ?_
  refine wp_of (uf_X1_runo _ _ _ _ _ _ _ _ _ _) ?_
  refine wp_in2 ?_
  refine wp_of (uf_X1_note _ _ _ _) ?_
  refine wp_ifn (by decide) ?_
  refine wp_ck (i_inb (by decide) (by rw [show ((0 : Int32)).toInt = 0 from by decide]; (try simp only [is_len]); omega)) ?_
  refine wp_nm (fun y5 h5 => ?_)
  subst h5
  refine wp_of (uf_X1_note_19 _ _ _) ?_
  refine wp_nm (fun y6 h6 => ?_)
  subst h6
  refine wp_so2 ?_
  show wp _ _
  refine wp_ifn (by decide) ?_
  refine wp_ifp (by decide) ?_
  refine wp_in3 ?_
  refine wp_of (uf_X1_call _ _ _ _ _ _ _ _ _ _) ?_
  refine wp_of (uf_X1_call_6 _ _ _ _ _ _ _ _ _ _ _ _) ?_
  refine wp_ifn (by decide) ?_
  refine wp_ifn (by decide) ?_
  refine wp_ck (by decide) ?_
  refine wp_ifn (by decide) ?_
  refine wp_ifn (by decide) ?_
  refine wp_ck (by decide) ?_
  refine wp_ck (by decide) ?_
  refine wp_in3 ?_
  refine wp_of (uf_X1_run _ _ _ _ _ _ _ _ _ _) ?_
  refine wp_of (uf_X1_runo _ _ _ _ _ _ _ _ _ _) ?_
  refine wp_in2 ?_
  refine wp_of (uf_X1_note _ _ _ _) ?_
  refine wp_ifn (by decide) ?_
  refine wp_ck (i_inb (by decide) (by rw [show (((0 : Int32) + (1 : Int32))).toInt = 1 from by decide]; (try simp only [is_len]); omega)) ?_
  refine wp_nm (fun y7 h7 => ?_)
  subst h7
  refine wp_of (uf_X1_note_19 _ _ _) ?_
  refine wp_nm (fun y8 h8 => ?_)
  subst h8
  refine wp_so2 ?_
  show wp _ _
  refine wp_ifn (by decide) ?_
  refine wp_ifn (by decide) ?_
  refine wp_ifn (by decide) ?_
  refine wp_ifn (by decide) ?_
  refine wp_ifn (by decide) ?_
  refine wp_ifn (by decide) ?_
  refine wp_ifn (by decide) ?_
  refine wp_ifp (by decide) ?_
  refine wp_in3 ?_
  refine wp_of (uf_X1_call _ _ _ _ _ _ _ _ _ _) ?_
  refine wp_of (uf_X1_call_6 _ _ _ _ _ _ _ _ _ _ _ _) ?_
  refine wp_ifn (by decide) ?_
  refine wp_ifn (by decide) ?_
  refine wp_ck (by decide) ?_
  refine wp_ifn (by decide) ?_
  refine wp_ifn (by decide) ?_
  refine wp_ck (by decide) ?_
  refine wp_ck (by decide) ?_
  refine wp_in3 ?_
  refine wp_of (uf_X1_run _ _ _ _ _ _ _ _ _ _) ?_
  refine wp_of (uf_X1_runo _ _ _ _ _ _ _ _ _ _) ?_
  refine wp_in2 ?_
  refine wp_of (uf_X1_note _ _ _ _) ?_
  refine wp_ifn (by decide) ?_
  refine wp_ck (i_inb (by decide) (by rw [show ((((0 : Int32) + (1 : Int32)) + (1 : Int32))).toInt = 2 from by decide]; (try simp only [is_len]); omega)) ?_
  refine wp_nm (fun y9 h9 => ?_)
  subst h9
  refine wp_of (uf_X1_note_19 _ _ _) ?_
  refine wp_nm (fun y10 h10 => ?_)
  subst h10
  refine wp_so2 ?_
  show wp _ _
  refine wp_ifn (by decide) ?_
  refine wp_ifn (by decide) ?_
  refine wp_ifn (by decide) ?_
  refine wp_ifn (by decide) ?_
  refine wp_ifn (by decide) ?_
  refine wp_ifp (by decide) ?_
  refine wp_in3 ?_
  refine wp_of (uf_X1_call _ _ _ _ _ _ _ _ _ _) ?_
  refine wp_of (uf_X1_call_6 _ _ _ _ _ _ _ _ _ _ _ _) ?_
  refine wp_ifn (by decide) ?_
  refine wp_ifn (by decide) ?_
  refine wp_ck (by decide) ?_
  refine wp_ifn (by decide) ?_
  refine wp_ifn (by decide) ?_
  refine wp_ck (by decide) ?_
  refine wp_ck (by decide) ?_
  refine wp_in3 ?_
  refine wp_of (uf_X1_run _ _ _ _ _ _ _ _ _ _) ?_
  refine wp_of (uf_X1_runo _ _ _ _ _ _ _ _ _ _) ?_
  refine wp_in2 ?_
  refine wp_of (uf_X1_note _ _ _ _) ?_
  refine wp_ifn (by decide) ?_
  refine wp_ck (i_inb (by decide) (by rw [show (((((0 : Int32) + (1 : Int32)) + (1 : Int32)) + (1 : Int32))).toInt = 3 from by decide]; (try simp only [is_len]); omega)) ?_
  refine wp_nm (fun y11 h11 => ?_)
  subst h11
  refine wp_of (uf_X1_note_19 _ _ _) ?_
  refine wp_nm (fun y12 h12 => ?_)
  subst h12
  refine wp_so2 ?_
  show wp _ _
  refine wp_ifn (by decide) ?_
  refine wp_ifn (by decide) ?_
  refine wp_ifp (by decide) ?_
  refine wp_in3 ?_
  refine wp_of (uf_X1_call _ _ _ _ _ _ _ _ _ _) ?_
  refine wp_of (uf_X1_call_6 _ _ _ _ _ _ _ _ _ _ _ _) ?_
  refine wp_ifn (by decide) ?_
  refine wp_ifn (by decide) ?_
  refine wp_ck (by decide) ?_
  refine wp_ifp (by decide) ?_
  refine wp_ck (by decide) ?_
  refine wp_nm (fun y13 h13 => ?_)
  subst h13
  refine wp_nm (fun y14 h14 => ?_)
  subst h14
  refine wp_of (uf_X1_call_6 _ _ _ _ _ _ _ _ _ _ _ _) ?_
  refine wp_ifn (by decide) ?_
  refine wp_ifn (by decide) ?_
  refine wp_ck (by decide) ?_
  refine wp_ifp (by decide) ?_
  refine wp_ck (by decide) ?_
  refine wp_nm (fun y15 h15 => ?_)
  subst h15
  refine wp_nm (fun y16 h16 => ?_)
  subst h16
  refine wp_of (uf_X1_call_6 _ _ _ _ _ _ _ _ _ _ _ _) ?_
  refine wp_ifn (by decide) ?_
  refine wp_ifn (by decide) ?_
  refine wp_ck (by decide) ?_
  refine wp_ifn (by decide) ?_
  refine wp_ifn (by decide) ?_
  refine wp_ck (by decide) ?_
  refine wp_ck (by decide) ?_
  refine wp_in3 ?_
  refine wp_of (uf_X1_run _ _ _ _ _ _ _ _ _ _) ?_
  refine wp_of (uf_X1_runo _ _ _ _ _ _ _ _ _ _) ?_
  refine wp_in2 ?_
  refine wp_of (uf_X1_note _ _ _ _) ?_
  refine wp_ifn (by decide) ?_
  refine wp_ck (i_inb (by decide) (by rw [show ((((((0 : Int32) + (1 : Int32)) + (1 : Int32)) + (1 : Int32)) + (1 : Int32))).toInt = 4 from by decide]; (try simp only [is_len]); omega)) ?_
  refine wp_nm (fun y17 h17 => ?_)
  subst h17
  refine wp_of (uf_X1_note_19 _ _ _) ?_
  refine wp_nm (fun y18 h18 => ?_)
  subst h18
  refine wp_so2 ?_
  show wp _ _
  refine wp_ifp (by decide) ?_
  refine wp_so3 ?_
  show wp _ _
  refine wp_so3 ?_
  show wp _ _
  refine wp_so3 ?_
  show wp _ _
  refine wp_so3 ?_
  show wp _ _
  refine wp_so3 ?_
  show wp _ _
  refine wp_so3 ?_
  show wp _ _
  refine wp_so3 ?_
  show wp _ _
  refine wp_so3 ?_
  show wp _ _
  refine wp_in3 ?_
  refine wp_of (uf_X1_call _ _ _ _ _ _ _ _ _ _) ?_
  refine wp_of (uf_X1_call_6 _ _ _ _ _ _ _ _ _ _ _ _) ?_
  refine wp_ifn (by decide) ?_
  refine wp_ifn (by decide) ?_
  refine wp_ck (by decide) ?_
  refine wp_ifn (by decide) ?_
  refine wp_ifn (by decide) ?_
  refine wp_ck (by decide) ?_
  refine wp_ck (by decide) ?_
  refine wp_in3 ?_
  refine wp_of (uf_X1_run _ _ _ _ _ _ _ _ _ _) ?_
  refine wp_of (uf_X1_runo _ _ _ _ _ _ _ _ _ _) ?_
  refine wp_in2 ?_
  refine wp_of (uf_X1_note _ _ _ _) ?_
  refine wp_ifn (by decide) ?_
  refine wp_ck (i_inb (by decide) (by rw [show (((((((0 : Int32) + (1 : Int32)) + (1 : Int32)) + (1 : Int32)) + (1 : Int32)) + (1 : Int32))).toInt = 5 from by decide]; (try simp only [is_len]); omega)) ?_
  refine wp_nm (fun y19 h19 => ?_)
  subst h19
  refine wp_of (uf_X1_note_19 _ _ _) ?_
  refine wp_nm (fun y20 h20 => ?_)
  subst h20
  refine wp_so2 ?_
  show wp _ _
  refine wp_ifn (by decide) ?_
  refine wp_ifn (by decide) ?_
  refine wp_ifn (by decide) ?_
  refine wp_ifn (by decide) ?_
  refine wp_ifn (by decide) ?_
  refine wp_ifn (by decide) ?_
  refine wp_ifp (by decide) ?_
  refine wp_in3 ?_
  refine wp_of (uf_X1_call _ _ _ _ _ _ _ _ _ _) ?_
  refine wp_of (uf_X1_call_6 _ _ _ _ _ _ _ _ _ _ _ _) ?_
  refine wp_ifn (by decide) ?_
  refine wp_ifn (by decide) ?_
  refine wp_ck (by decide) ?_
  refine wp_ifp (by decide) ?_
  refine wp_ck (by decide) ?_
  refine wp_nm (fun y21 h21 => ?_)
  subst h21
  refine wp_nm (fun y22 h22 => ?_)
  subst h22
  refine wp_of (uf_X1_call_6 _ _ _ _ _ _ _ _ _ _ _ _) ?_
  refine wp_ifn (by decide) ?_
  refine wp_ifn (by decide) ?_
  refine wp_ck (by decide) ?_
  refine wp_ifn (by decide) ?_
  refine wp_ifn (by decide) ?_
  refine wp_ck (by decide) ?_
  refine wp_ck (by decide) ?_
  refine wp_in3 ?_
  refine wp_of (uf_X1_run _ _ _ _ _ _ _ _ _ _) ?_
  refine wp_of (uf_X1_runo _ _ _ _ _ _ _ _ _ _) ?_
  refine wp_in2 ?_
  refine wp_of (uf_X1_note _ _ _ _) ?_
  refine wp_ifn (by decide) ?_
  refine wp_ck (i_inb (by decide) (by rw [show ((((((((0 : Int32) + (1 : Int32)) + (1 : Int32)) + (1 : Int32)) + (1 : Int32)) + (1 : Int32)) + (1 : Int32))).toInt = 6 from by decide]; (try simp only [is_len]); omega)) ?_
  refine wp_nm (fun y23 h23 => ?_)
  subst h23
  refine wp_of (uf_X1_note_19 _ _ _) ?_
  refine wp_nm (fun y24 h24 => ?_)
  subst h24
  refine wp_so2 ?_
  show wp _ _
  refine wp_ifn (by decide) ?_
  refine wp_ifn (by decide) ?_
  refine wp_ifn (by decide) ?_
  refine wp_ifp (by decide) ?_
  refine wp_so3 ?_
  show wp _ _
  refine wp_so3 ?_
  show wp _ _
  refine wp_so3 ?_
  show wp _ _
  refine wp_so3 ?_
  show wp _ _
  refine wp_so3 ?_
  show wp _ _
  exact wp_so3 ⟨rfl, rfl, rfl⟩

set_option maxRecDepth 20000 in
theorem ac8_4_0 (x b : Int32) (tr : List Int32) (hl : tr.length = 24) : wp (fX1_call 700 (fX1_run 700 42) (4 : Int32) (4 : Int32) (0 : Int32) x (0 : Int32) (0 : Int32) b tr) (cu3 (fun r0 r1 r2 => r0 = (x + b) ∧ r1 = ((0 : Int32) + (1 : Int32)) ∧ r2 = (mm_is tr (0 : Int32) (mm_ig mm_OWN (((4 : Int32) * (mm_ig mm_ABOVE (4 : Int32))) + (0 : Int32)))))) := by
  refine wp_of (uf_X1_call _ _ _ _ _ _ _ _ _ _) ?_
  refine wp_of (uf_X1_call_6 _ _ _ _ _ _ _ _ _ _ _ _) ?_
  refine wp_ifn (by decide) ?_
  refine wp_ifn (by decide) ?_
  refine wp_ck (by decide) ?_
  refine wp_ifp (by decide) ?_
  refine wp_ck (by decide) ?_
  refine wp_nm (fun y1 h1 => ?_)
  subst h1
  refine wp_nm (fun y2 h2 => ?_)
  subst h2
  refine wp_of (uf_X1_call_6 _ _ _ _ _ _ _ _ _ _ _ _) ?_
  refine wp_ifn (by decide) ?_
  refine wp_ifn (by decide) ?_
  refine wp_ck (by decide) ?_
  refine wp_ifn (by decide) ?_
  refine wp_ifn (by decide) ?_
  refine wp_ck (by decide) ?_
  refine wp_ck (by decide) ?_
  refine wp_in3 ?_
  refine wp_of (uf_X1_run _ _ _ _ _ _ _ _ _ _) ?_
  refine wp_of (uf_X1_runo _ _ _ _ _ _ _ _ _ _) ?_
  refine wp_in2 ?_
  refine wp_of (uf_X1_note _ _ _ _) ?_
  refine wp_ifn (by decide) ?_
  refine wp_ck (i_inb (by decide) (by rw [show ((0 : Int32)).toInt = 0 from by decide]; (try simp only [is_len]); omega)) ?_
  refine wp_nm (fun y3 h3 => ?_)
  subst h3
  refine wp_of (uf_X1_note_19 _ _ _) ?_
  refine wp_nm (fun y4 h4 => ?_)
  subst h4
  refine wp_so2 ?_
  show wp _ _
  refine wp_ifp (by decide) ?_
  refine wp_so3 ?_
  show wp _ _
  exact wp_so3 ⟨rfl, rfl, rfl⟩

set_option maxRecDepth 20000 in
theorem ac8_4_1 (x b : Int32) (tr : List Int32) (hl : tr.length = 24) : wp (fX1_call 700 (fX1_run 700 42) (4 : Int32) (4 : Int32) (1 : Int32) x (0 : Int32) (0 : Int32) b tr) (cu3 (fun r0 r1 r2 => r0 = ((x + b) * (2 : Int32)) ∧ r1 = (((0 : Int32) + (1 : Int32)) + (1 : Int32)) ∧ r2 = (mm_is (mm_is tr (0 : Int32) (mm_ig mm_OWN (((4 : Int32) * (mm_ig mm_ABOVE (4 : Int32))) + (1 : Int32)))) ((0 : Int32) + (1 : Int32)) (mm_ig mm_OWN (((4 : Int32) * (mm_ig mm_ABOVE (4 : Int32))) + (0 : Int32)))))) := by
  refine wp_of (uf_X1_call _ _ _ _ _ _ _ _ _ _) ?_
  refine wp_of (uf_X1_call_6 _ _ _ _ _ _ _ _ _ _ _ _) ?_
  refine wp_ifn (by decide) ?_
  refine wp_ifn (by decide) ?_
  refine wp_ck (by decide) ?_
  refine wp_ifp (by decide) ?_
  refine wp_ck (by decide) ?_
  refine wp_nm (fun y1 h1 => ?_)
  subst h1
  refine wp_nm (fun y2 h2 => ?_)
  subst h2
  refine wp_of (uf_X1_call_6 _ _ _ _ _ _ _ _ _ _ _ _) ?_
  refine wp_ifn (by decide) ?_
  refine wp_ifn (by decide) ?_
  refine wp_ck (by decide) ?_
  refine wp_ifn (by decide) ?_
  refine wp_ifn (by decide) ?_
  refine wp_ck (by decide) ?_
  refine wp_ck (by decide) ?_
  refine wp_in3 ?_
  refine wp_of (uf_X1_run _ _ _ _ _ _ _ _ _ _) ?_
  refine wp_of (uf_X1_runo _ _ _ _ _ _ _ _ _ _) ?_
  refine wp_in2 ?_
  refine wp_of (uf_X1_note _ _ _ _) ?_
  refine wp_ifn (by decide) ?_
  refine wp_ck (i_inb (by decide) (by rw [show ((0 : Int32)).toInt = 0 from by decide]; (try simp only [is_len]); omega)) ?_
  refine wp_nm (fun y3 h3 => ?_)
  subst h3
  refine wp_of (uf_X1_note_19 _ _ _) ?_
  refine wp_nm (fun y4 h4 => ?_)
  subst h4
  refine wp_so2 ?_
  show wp _ _
  refine wp_ifn (by decide) ?_
  refine wp_ifn (by decide) ?_
  refine wp_ifp (by decide) ?_
  refine wp_in3 ?_
  refine wp_of (uf_X1_call _ _ _ _ _ _ _ _ _ _) ?_
  refine wp_of (uf_X1_call_6 _ _ _ _ _ _ _ _ _ _ _ _) ?_
  refine wp_ifn (by decide) ?_
  refine wp_ifn (by decide) ?_
  refine wp_ck (by decide) ?_
  refine wp_ifp (by decide) ?_
  refine wp_ck (by decide) ?_
  refine wp_nm (fun y5 h5 => ?_)
  subst h5
  refine wp_nm (fun y6 h6 => ?_)
  subst h6
  refine wp_of (uf_X1_call_6 _ _ _ _ _ _ _ _ _ _ _ _) ?_
  refine wp_ifn (by decide) ?_
  refine wp_ifn (by decide) ?_
  refine wp_ck (by decide) ?_
  refine wp_ifn (by decide) ?_
  refine wp_ifn (by decide) ?_
  refine wp_ck (by decide) ?_
  refine wp_ck (by decide) ?_
  refine wp_in3 ?_
  refine wp_of (uf_X1_run _ _ _ _ _ _ _ _ _ _) ?_
  refine wp_of (uf_X1_runo _ _ _ _ _ _ _ _ _ _) ?_
  refine wp_in2 ?_
  refine wp_of (uf_X1_note _ _ _ _) ?_
  refine wp_ifn (by decide) ?_
  refine wp_ck (i_inb (by decide) (by rw [show (((0 : Int32) + (1 : Int32))).toInt = 1 from by decide]; (try simp only [is_len]); omega)) ?_
  refine wp_nm (fun y7 h7 => ?_)
  subst h7
  refine wp_of (uf_X1_note_19 _ _ _) ?_
  refine wp_nm (fun y8 h8 => ?_)
  subst h8
  refine wp_so2 ?_
  show wp _ _
  refine wp_ifp (by decide) ?_
  refine wp_so3 ?_
  show wp _ _
  refine wp_so3 ?_
  show wp _ _
  refine wp_so3 ?_
  show wp _ _
  exact wp_so3 ⟨rfl, rfl, rfl⟩

set_option maxRecDepth 20000 in
theorem ac8_4_2 (x b : Int32) (tr : List Int32) (hl : tr.length = 24) : wp (fX1_call 700 (fX1_run 700 42) (4 : Int32) (4 : Int32) (2 : Int32) x (0 : Int32) (0 : Int32) b tr) (cu3 (fun r0 r1 r2 => r0 = ((x ^^^ b) - ((2 : Int32) + b)) ∧ r1 = ((((0 : Int32) + (1 : Int32)) + (1 : Int32)) + (1 : Int32)) ∧ r2 = (mm_is (mm_is (mm_is tr (0 : Int32) (mm_ig mm_OWN (((4 : Int32) * (4 : Int32)) + (2 : Int32)))) ((0 : Int32) + (1 : Int32)) (mm_ig mm_OWN (((4 : Int32) * (mm_ig mm_ABOVE (4 : Int32))) + (2 : Int32)))) (((0 : Int32) + (1 : Int32)) + (1 : Int32)) (mm_ig mm_OWN (((4 : Int32) * (mm_ig mm_ABOVE (4 : Int32))) + (0 : Int32)))))) := by
  refine wp_of (uf_X1_call _ _ _ _ _ _ _ _ _ _) ?_
  refine wp_of (uf_X1_call_6 _ _ _ _ _ _ _ _ _ _ _ _) ?_
  refine wp_ifn (by decide) ?_
  refine wp_ifn (by decide) ?_
  refine wp_ck (by decide) ?_
  refine wp_ifn (by decide) ?_
  refine wp_ifn (by decide) ?_
  refine wp_ck (by decide) ?_
  refine wp_ck (by decide) ?_
  refine wp_in3 ?_
  refine wp_of (uf_X1_run _ _ _ _ _ _ _ _ _ _) ?_
  refine wp_of (uf_X1_runo _ _ _ _ _ _ _ _ _ _) ?_
  refine wp_in2 ?_
  refine wp_of (uf_X1_note _ _ _ _) ?_
  refine wp_ifn (by decide) ?_
  refine wp_ck (i_inb (by decide) (by rw [show ((0 : Int32)).toInt = 0 from by decide]; (try simp only [is_len]); omega)) ?_
  refine wp_nm (fun y1 h1 => ?_)
  subst h1
  refine wp_of (uf_X1_note_19 _ _ _) ?_
  refine wp_nm (fun y2 h2 => ?_)
  subst h2
  refine wp_so2 ?_
  show wp _ _
  refine wp_ifn (by decide) ?_
  refine wp_ifn (by decide) ?_
  refine wp_ifn (by decide) ?_
  refine wp_ifn (by decide) ?_
  refine wp_ifn (by decide) ?_
  refine wp_ifn (by decide) ?_
  refine wp_ifn (by decide) ?_
  refine wp_ifn (by decide) ?_
  refine wp_ifp (by decide) ?_
  refine wp_in3 ?_
  refine wp_of (uf_X1_call _ _ _ _ _ _ _ _ _ _) ?_
  refine wp_of (uf_X1_call_6 _ _ _ _ _ _ _ _ _ _ _ _) ?_
  refine wp_ifn (by decide) ?_
  refine wp_ifn (by decide) ?_
  refine wp_ck (by decide) ?_
  refine wp_ifn (by decide) ?_
  refine wp_ifn (by decide) ?_
  refine wp_ck (by decide) ?_
  refine wp_ck (by decide) ?_
  refine wp_in3 ?_
  refine wp_of (uf_X1_run _ _ _ _ _ _ _ _ _ _) ?_
  refine wp_of (uf_X1_runo _ _ _ _ _ _ _ _ _ _) ?_
  refine wp_in2 ?_
  refine wp_of (uf_X1_note _ _ _ _) ?_
  refine wp_ifn (by decide) ?_
  refine wp_ck (i_inb (by decide) (by rw [show (((0 : Int32) + (1 : Int32))).toInt = 1 from by decide]; (try simp only [is_len]); omega)) ?_
  refine wp_nm (fun y3 h3 => ?_)
  subst h3
  refine wp_of (uf_X1_note_19 _ _ _) ?_
  refine wp_nm (fun y4 h4 => ?_)
  subst h4
  refine wp_so2 ?_
  show wp _ _
  refine wp_ifn (by decide) ?_
  refine wp_ifn (by decide) ?_
  refine wp_ifn (by decide) ?_
  refine wp_ifp (by decide) ?_
  refine wp_so3 ?_
  show wp _ _
  refine wp_so3 ?_
  show wp _ _
  refine wp_in3 ?_
  refine wp_of (uf_X1_call _ _ _ _ _ _ _ _ _ _) ?_
  refine wp_of (uf_X1_call_6 _ _ _ _ _ _ _ _ _ _ _ _) ?_
  refine wp_ifn (by decide) ?_
  refine wp_ifn (by decide) ?_
  refine wp_ck (by decide) ?_
  refine wp_ifp (by decide) ?_
  refine wp_ck (by decide) ?_
  refine wp_nm (fun y5 h5 => ?_)
  subst h5
  refine wp_nm (fun y6 h6 => ?_)
  subst h6
  refine wp_of (uf_X1_call_6 _ _ _ _ _ _ _ _ _ _ _ _) ?_
  refine wp_ifn (by decide) ?_
  refine wp_ifn (by decide) ?_
  refine wp_ck (by decide) ?_
  refine wp_ifn (by decide) ?_
  refine wp_ifn (by decide) ?_
  refine wp_ck (by decide) ?_
  refine wp_ck (by decide) ?_
  refine wp_in3 ?_
  refine wp_of (uf_X1_run _ _ _ _ _ _ _ _ _ _) ?_
  refine wp_of (uf_X1_runo _ _ _ _ _ _ _ _ _ _) ?_
  refine wp_in2 ?_
  refine wp_of (uf_X1_note _ _ _ _) ?_
  refine wp_ifn (by decide) ?_
  refine wp_ck (i_inb (by decide) (by rw [show ((((0 : Int32) + (1 : Int32)) + (1 : Int32))).toInt = 2 from by decide]; (try simp only [is_len]); omega)) ?_
  refine wp_nm (fun y7 h7 => ?_)
  subst h7
  refine wp_of (uf_X1_note_19 _ _ _) ?_
  refine wp_nm (fun y8 h8 => ?_)
  subst h8
  refine wp_so2 ?_
  show wp _ _
  refine wp_ifp (by decide) ?_
  refine wp_so3 ?_
  show wp _ _
  refine wp_so3 ?_
  show wp _ _
  refine wp_so3 ?_
  show wp _ _
  exact wp_so3 ⟨rfl, rfl, rfl⟩

set_option maxRecDepth 20000 in
theorem ac8_4_3 (x b : Int32) (tr : List Int32) (hl : tr.length = 24) : wp (fX1_call 700 (fX1_run 700 42) (4 : Int32) (4 : Int32) (3 : Int32) x (0 : Int32) (0 : Int32) b tr) (cu3 (fun r0 r1 r2 => r0 = (((x + b) * (2 : Int32)) - (((1 : Int32) ^^^ b) - ((2 : Int32) + b))) ∧ r1 = (((((((0 : Int32) + (1 : Int32)) + (1 : Int32)) + (1 : Int32)) + (1 : Int32)) + (1 : Int32)) + (1 : Int32)) ∧ r2 = (mm_is (mm_is (mm_is (mm_is (mm_is (mm_is tr (0 : Int32) (mm_ig mm_OWN (((4 : Int32) * (mm_ig mm_ABOVE (4 : Int32))) + (3 : Int32)))) ((0 : Int32) + (1 : Int32)) (mm_ig mm_OWN (((4 : Int32) * (mm_ig mm_ABOVE (4 : Int32))) + (1 : Int32)))) (((0 : Int32) + (1 : Int32)) + (1 : Int32)) (mm_ig mm_OWN (((4 : Int32) * (mm_ig mm_ABOVE (4 : Int32))) + (0 : Int32)))) ((((0 : Int32) + (1 : Int32)) + (1 : Int32)) + (1 : Int32)) (mm_ig mm_OWN (((4 : Int32) * (4 : Int32)) + (2 : Int32)))) (((((0 : Int32) + (1 : Int32)) + (1 : Int32)) + (1 : Int32)) + (1 : Int32)) (mm_ig mm_OWN (((4 : Int32) * (mm_ig mm_ABOVE (4 : Int32))) + (2 : Int32)))) ((((((0 : Int32) + (1 : Int32)) + (1 : Int32)) + (1 : Int32)) + (1 : Int32)) + (1 : Int32)) (mm_ig mm_OWN (((4 : Int32) * (mm_ig mm_ABOVE (4 : Int32))) + (0 : Int32)))))) := by
  refine wp_of (uf_X1_call _ _ _ _ _ _ _ _ _ _) ?_
  refine wp_of (uf_X1_call_6 _ _ _ _ _ _ _ _ _ _ _ _) ?_
  refine wp_ifn (by decide) ?_
  refine wp_ifn (by decide) ?_
  refine wp_ck (by decide) ?_
  refine wp_ifp (by decide) ?_
  refine wp_ck (by decide) ?_
  refine wp_nm (fun y1 h1 => ?_)
  subst h1
  refine wp_nm (fun y2 h2 => ?_)
  subst h2
  refine wp_of (uf_X1_call_6 _ _ _ _ _ _ _ _ _ _ _ _) ?_
  refine wp_ifn (by decide) ?_
  refine wp_ifn (by decide) ?_
  refine wp_ck (by decide) ?_
  refine wp_ifn (by decide) ?_
  refine wp_ifn (by decide) ?_
  refine wp_ck (by decide) ?_
  refine wp_ck (by decide) ?_
  refine wp_in3 ?_
  refine wp_of (uf_X1_run _ _ _ _ _ _ _ _ _ _) ?_
  refine wp_of (uf_X1_runo _ _ _ _ _ _ _ _ _ _) ?_
  refine wp_in2 ?_
  refine wp_of (uf_X1_note _ _ _ _) ?_
  refine wp_ifn (by decide) ?_
  refine wp_ck (i_inb (by decide) (by rw [show ((0 : Int32)).toInt = 0 from by decide]; (try simp only [is_len]); omega)) ?_
  refine wp_nm (fun y3 h3 => ?_)
  subst h3
  refine wp_of (uf_X1_note_19 _ _ _) ?_
  refine wp_nm (fun y4 h4 => ?_)
  subst h4
  refine wp_so2 ?_
  show wp _ _
  refine wp_ifn (by decide) ?_
  refine wp_ifp (by decide) ?_
  refine wp_in3 ?_
  refine wp_of (uf_X1_call _ _ _ _ _ _ _ _ _ _) ?_
  refine wp_of (uf_X1_call_6 _ _ _ _ _ _ _ _ _ _ _ _) ?_
  refine wp_ifn (by decide) ?_
  refine wp_ifn (by decide) ?_
  refine wp_ck (by decide) ?_
  refine wp_ifp (by decide) ?_
  refine wp_ck (by decide) ?_
  refine wp_nm (fun y5 h5 => ?_)
  subst h5
  refine wp_nm (fun y6 h6 => ?_)
  subst h6
  refine wp_of (uf_X1_call_6 _ _ _ _ _ _ _ _ _ _ _ _) ?_
  refine wp_ifn (by decide) ?_
  refine wp_ifn (by decide) ?_
  refine wp_ck (by decide) ?_
  refine wp_ifn (by decide) ?_
  refine wp_ifn (by decide) ?_
  refine wp_ck (by decide) ?_
  refine wp_ck (by decide) ?_
  refine wp_in3 ?_
  refine wp_of (uf_X1_run _ _ _ _ _ _ _ _ _ _) ?_
  refine wp_of (uf_X1_runo _ _ _ _ _ _ _ _ _ _) ?_
  refine wp_in2 ?_
  refine wp_of (uf_X1_note _ _ _ _) ?_
  refine wp_ifn (by decide) ?_
  refine wp_ck (i_inb (by decide) (by rw [show (((0 : Int32) + (1 : Int32))).toInt = 1 from by decide]; (try simp only [is_len]); omega)) ?_
  refine wp_nm (fun y7 h7 => ?_)
  subst h7
  refine wp_of (uf_X1_note_19 _ _ _) ?_
  refine wp_nm (fun y8 h8 => ?_)
  subst h8
  refine wp_so2 ?_
  show wp _ _
  refine wp_ifn (by decide) ?_
  refine wp_ifn (by decide) ?_
  refine wp_ifp (by decide) ?_
  refine wp_in3 ?_
  refine wp_of (uf_X1_call _ _ _ _ _ _ _ _ _ _) ?_
  refine wp_of (uf_X1_call_6 _ _ _ _ _ _ _ _ _ _ _ _) ?_
  refine wp_ifn (by decide) ?_
  refine wp_ifn (by decide) ?_
  refine wp_ck (by decide) ?_
  refine wp_ifp (by decide) ?_
  refine wp_ck (by decide) ?_
  refine wp_nm (fun y9 h9 => ?_)
  subst h9
  refine wp_nm (fun y10 h10 => ?_)
  subst h10
  refine wp_of (uf_X1_call_6 _ _ _ _ _ _ _ _ _ _ _ _) ?_
  refine wp_ifn (by decide) ?_
  refine wp_ifn (by decide) ?_
  refine wp_ck (by decide) ?_
  refine wp_ifn (by decide) ?_
  refine wp_ifn (by decide) ?_
  refine wp_ck (by decide) ?_
  refine wp_ck (by decide) ?_
  refine wp_in3 ?_
  refine wp_of (uf_X1_run _ _ _ _ _ _ _ _ _ _) ?_
  refine wp_of (uf_X1_runo _ _ _ _ _ _ _ _ _ _) ?_
  refine wp_in2 ?_
  refine wp_of (uf_X1_note _ _ _ _) ?_
  refine wp_ifn (by decide) ?_
  refine wp_ck (i_inb (by decide) (by rw [show ((((0 : Int32) + (1 : Int32)) + (1 : Int32))).toInt = 2 from by decide]; (try simp only [is_len]); omega)) ?_
  refine wp_nm (fun y11 h11 => ?_)
  subst h11
  refine wp_of (uf_X1_note_19 _ _ _) ?_
  refine wp_nm (fun y12 h12 => ?_)
  subst h12
  refine wp_so2 ?_
  show wp _ _
  refine wp_ifp (by decide) ?_
  refine wp_so3 ?_
  show wp _ _
  refine wp_so3 ?_
  show wp _ _
  refine wp_so3 ?_
  show wp _ _
  refine wp_so3 ?_
  show wp _ _
  refine wp_in3 ?_
  refine wp_of (uf_X1_call _ _ _ _ _ _ _ _ _ _) ?_
  refine wp_of (uf_X1_call_6 _ _ _ _ _ _ _ _ _ _ _ _) ?_
  refine wp_ifn (by decide) ?_
  refine wp_ifn (by decide) ?_
  refine wp_ck (by decide) ?_
  refine wp_ifn (by decide) ?_
  refine wp_ifn (by decide) ?_
  refine wp_ck (by decide) ?_
  refine wp_ck (by decide) ?_
  refine wp_in3 ?_
  refine wp_of (uf_X1_run _ _ _ _ _ _ _ _ _ _) ?_
  refine wp_of (uf_X1_runo _ _ _ _ _ _ _ _ _ _) ?_
  refine wp_in2 ?_
  refine wp_of (uf_X1_note _ _ _ _) ?_
  refine wp_ifn (by decide) ?_
  refine wp_ck (i_inb (by decide) (by rw [show (((((0 : Int32) + (1 : Int32)) + (1 : Int32)) + (1 : Int32))).toInt = 3 from by decide]; (try simp only [is_len]); omega)) ?_
  refine wp_nm (fun y13 h13 => ?_)
  subst h13
  refine wp_of (uf_X1_note_19 _ _ _) ?_
  refine wp_nm (fun y14 h14 => ?_)
  subst h14
  refine wp_so2 ?_
  show wp _ _
  refine wp_ifn (by decide) ?_
  refine wp_ifn (by decide) ?_
  refine wp_ifn (by decide) ?_
  refine wp_ifn (by decide) ?_
  refine wp_ifn (by decide) ?_
  refine wp_ifn (by decide) ?_
  refine wp_ifn (by decide) ?_
  refine wp_ifn (by decide) ?_
  refine wp_ifp (by decide) ?_
  refine wp_in3 ?_
  refine wp_of (uf_X1_call _ _ _ _ _ _ _ _ _ _) ?_
  refine wp_of (uf_X1_call_6 _ _ _ _ _ _ _ _ _ _ _ _) ?_
  refine wp_ifn (by decide) ?_
  refine wp_ifn (by decide) ?_
  refine wp_ck (by decide) ?_
  refine wp_ifn (by decide) ?_
  refine wp_ifn (by decide) ?_
  refine wp_ck (by decide) ?_
  refine wp_ck (by decide) ?_
  refine wp_in3 ?_
  refine wp_of (uf_X1_run _ _ _ _ _ _ _ _ _ _) ?_
  refine wp_of (uf_X1_runo _ _ _ _ _ _ _ _ _ _) ?_
  refine wp_in2 ?_
  refine wp_of (uf_X1_note _ _ _ _) ?_
  refine wp_ifn (by decide) ?_
  refine wp_ck (i_inb (by decide) (by rw [show ((((((0 : Int32) + (1 : Int32)) + (1 : Int32)) + (1 : Int32)) + (1 : Int32))).toInt = 4 from by decide]; (try simp only [is_len]); omega)) ?_
  refine wp_nm (fun y15 h15 => ?_)
  subst h15
  refine wp_of (uf_X1_note_19 _ _ _) ?_
  refine wp_nm (fun y16 h16 => ?_)
  subst h16
  refine wp_so2 ?_
  show wp _ _
  refine wp_ifn (by decide) ?_
  refine wp_ifn (by decide) ?_
  refine wp_ifn (by decide) ?_
  refine wp_ifp (by decide) ?_
  refine wp_so3 ?_
  show wp _ _
  refine wp_so3 ?_
  show wp _ _
  refine wp_in3 ?_
  refine wp_of (uf_X1_call _ _ _ _ _ _ _ _ _ _) ?_
  refine wp_of (uf_X1_call_6 _ _ _ _ _ _ _ _ _ _ _ _) ?_
  refine wp_ifn (by decide) ?_
  refine wp_ifn (by decide) ?_
  refine wp_ck (by decide) ?_
  refine wp_ifp (by decide) ?_
  refine wp_ck (by decide) ?_
  refine wp_nm (fun y17 h17 => ?_)
  subst h17
  refine wp_nm (fun y18 h18 => ?_)
  subst h18
  refine wp_of (uf_X1_call_6 _ _ _ _ _ _ _ _ _ _ _ _) ?_
  refine wp_ifn (by decide) ?_
  refine wp_ifn (by decide) ?_
  refine wp_ck (by decide) ?_
  refine wp_ifn (by decide) ?_
  refine wp_ifn (by decide) ?_
  refine wp_ck (by decide) ?_
  refine wp_ck (by decide) ?_
  refine wp_in3 ?_
  refine wp_of (uf_X1_run _ _ _ _ _ _ _ _ _ _) ?_
  refine wp_of (uf_X1_runo _ _ _ _ _ _ _ _ _ _) ?_
  refine wp_in2 ?_
  refine wp_of (uf_X1_note _ _ _ _) ?_
  refine wp_ifn (by decide) ?_
  refine wp_ck (i_inb (by decide) (by rw [show (((((((0 : Int32) + (1 : Int32)) + (1 : Int32)) + (1 : Int32)) + (1 : Int32)) + (1 : Int32))).toInt = 5 from by decide]; (try simp only [is_len]); omega)) ?_
  refine wp_nm (fun y19 h19 => ?_)
  subst h19
  refine wp_of (uf_X1_note_19 _ _ _) ?_
  refine wp_nm (fun y20 h20 => ?_)
  subst h20
  refine wp_so2 ?_
  show wp _ _
  refine wp_ifp (by decide) ?_
  refine wp_so3 ?_
  show wp _ _
  refine wp_so3 ?_
  show wp _ _
  refine wp_so3 ?_
  show wp _ _
  refine wp_so3 ?_
  show wp _ _
  refine wp_so3 ?_
  show wp _ _
  exact wp_so3 ⟨rfl, rfl, rfl⟩

set_option maxRecDepth 20000 in
theorem ac8_5_0 (x b : Int32) (tr : List Int32) (hl : tr.length = 24) : wp (fX1_call 700 (fX1_run 700 42) (5 : Int32) (5 : Int32) (0 : Int32) x (0 : Int32) (0 : Int32) b tr) (cu3 (fun r0 r1 r2 => r0 = (x + b) ∧ r1 = ((0 : Int32) + (1 : Int32)) ∧ r2 = (mm_is tr (0 : Int32) (mm_ig mm_OWN (((4 : Int32) * (mm_ig mm_ABOVE (mm_ig mm_ABOVE (mm_ig mm_ABOVE (5 : Int32))))) + (0 : Int32)))))) := by
  refine wp_of (uf_X1_call _ _ _ _ _ _ _ _ _ _) ?_
  refine wp_of (uf_X1_call_6 _ _ _ _ _ _ _ _ _ _ _ _) ?_
  refine wp_ifn (by decide) ?_
  refine wp_ifn (by decide) ?_
  refine wp_ck (by decide) ?_
  refine wp_ifp (by decide) ?_
  refine wp_ck (by decide) ?_
  refine wp_nm (fun y1 h1 => ?_)
  subst h1
  refine wp_nm (fun y2 h2 => ?_)
  subst h2
  refine wp_of (uf_X1_call_6 _ _ _ _ _ _ _ _ _ _ _ _) ?_
  refine wp_ifn (by decide) ?_
  refine wp_ifn (by decide) ?_
  refine wp_ck (by decide) ?_
  refine wp_ifp (by decide) ?_
  refine wp_ck (by decide) ?_
  refine wp_nm (fun y3 h3 => ?_)
  subst h3
  refine wp_nm (fun y4 h4 => ?_)
  subst h4
  refine wp_of (uf_X1_call_6 _ _ _ _ _ _ _ _ _ _ _ _) ?_
  refine wp_ifn (by decide) ?_
  refine wp_ifn (by decide) ?_
  refine wp_ck (by decide) ?_
  refine wp_ifp (by decide) ?_
  refine wp_ck (by decide) ?_
  refine wp_nm (fun y5 h5 => ?_)
  subst h5
  refine wp_nm (fun y6 h6 => ?_)
  subst h6
  refine wp_of (uf_X1_call_6 _ _ _ _ _ _ _ _ _ _ _ _) ?_
  refine wp_ifn (by decide) ?_
  refine wp_ifn (by decide) ?_
  refine wp_ck (by decide) ?_
  refine wp_ifn (by decide) ?_
  refine wp_ifn (by decide) ?_
  refine wp_ck (by decide) ?_
  refine wp_ck (by decide) ?_
  refine wp_in3 ?_
  refine wp_of (uf_X1_run _ _ _ _ _ _ _ _ _ _) ?_
  refine wp_of (uf_X1_runo _ _ _ _ _ _ _ _ _ _) ?_
  refine wp_in2 ?_
  refine wp_of (uf_X1_note _ _ _ _) ?_
  refine wp_ifn (by decide) ?_
  refine wp_ck (i_inb (by decide) (by rw [show ((0 : Int32)).toInt = 0 from by decide]; (try simp only [is_len]); omega)) ?_
  refine wp_nm (fun y7 h7 => ?_)
  subst h7
  refine wp_of (uf_X1_note_19 _ _ _) ?_
  refine wp_nm (fun y8 h8 => ?_)
  subst h8
  refine wp_so2 ?_
  show wp _ _
  refine wp_ifp (by decide) ?_
  refine wp_so3 ?_
  show wp _ _
  exact wp_so3 ⟨rfl, rfl, rfl⟩

set_option maxRecDepth 20000 in
theorem ac8_5_1 (x b : Int32) (tr : List Int32) (hl : tr.length = 24) : wp (fX1_call 700 (fX1_run 700 42) (5 : Int32) (5 : Int32) (1 : Int32) x (0 : Int32) (0 : Int32) b tr) (cu3 (fun r0 r1 r2 => r0 = (-(((x + (1 : Int32)) + b) * (2 : Int32))) ∧ r1 = (((((0 : Int32) + (1 : Int32)) + (1 : Int32)) + (1 : Int32)) + (1 : Int32)) ∧ r2 = (mm_is (mm_is (mm_is (mm_is tr (0 : Int32) (mm_ig mm_OWN (((4 : Int32) * (mm_ig mm_ABOVE (5 : Int32))) + (1 : Int32)))) ((0 : Int32) + (1 : Int32)) (mm_ig mm_OWN (((4 : Int32) * (mm_ig mm_ABOVE (mm_ig mm_ABOVE (5 : Int32)))) + (1 : Int32)))) (((0 : Int32) + (1 : Int32)) + (1 : Int32)) (mm_ig mm_OWN (((4 : Int32) * (mm_ig mm_ABOVE (mm_ig mm_ABOVE (mm_ig mm_ABOVE (5 : Int32))))) + (1 : Int32)))) ((((0 : Int32) + (1 : Int32)) + (1 : Int32)) + (1 : Int32)) (mm_ig mm_OWN (((4 : Int32) * (mm_ig mm_ABOVE (mm_ig mm_ABOVE (mm_ig mm_ABOVE (5 : Int32))))) + (0 : Int32)))))) := by
  refine wp_of (uf_X1_call _ _ _ _ _ _ _ _ _ _) ?_
  refine wp_of (uf_X1_call_6 _ _ _ _ _ _ _ _ _ _ _ _) ?_
  refine wp_ifn (by decide) ?_
  refine wp_ifn (by decide) ?_
  refine wp_ck (by decide) ?_
  refine wp_ifp (by decide) ?_
  refine wp_ck (by decide) ?_
  refine wp_nm (fun y1 h1 => ?_)
  subst h1
  refine wp_nm (fun y2 h2 => ?_)
  subst h2
  refine wp_of (uf_X1_call_6 _ _ _ _ _ _ _ _ _ _ _ _) ?_
  refine wp_ifn (by decide) ?_
  refine wp_ifn (by decide) ?_
  refine wp_ck (by decide) ?_
  refine wp_ifn (by decide) ?_
  refine wp_ifn (by decide) ?_
  refine wp_ck (by decide) ?_
  refine wp_ck (by decide) ?_
  refine wp_in3 ?_
  refine wp_of (uf_X1_run _ _ _ _ _ _ _ _ _ _) ?_
  refine wp_of (uf_X1_runo _ _ _ _ _ _ _ _ _ _) ?_
  refine wp_in2 ?_
  refine wp_of (uf_X1_note _ _ _ _) ?_
  refine wp_ifn (by decide) ?_
  refine wp_ck (i_inb (by decide) (by rw [show ((0 : Int32)).toInt = 0 from by decide]; (try simp only [is_len]); omega)) ?_
  refine wp_nm (fun y3 h3 => ?_)
  subst h3
  refine wp_of (uf_X1_note_19 _ _ _) ?_
  refine wp_nm (fun y4 h4 => ?_)
  subst h4
  refine wp_so2 ?_
  show wp _ _
  refine wp_ifn (by decide) ?_
  refine wp_ifn (by decide) ?_
  refine wp_ifn (by decide) ?_
  refine wp_ifn (by decide) ?_
  refine wp_ifn (by decide) ?_
  refine wp_ifn (by decide) ?_
  refine wp_ifn (by decide) ?_
  refine wp_ifp (by decide) ?_
  refine wp_in3 ?_
  refine wp_of (uf_X1_call _ _ _ _ _ _ _ _ _ _) ?_
  refine wp_of (uf_X1_call_6 _ _ _ _ _ _ _ _ _ _ _ _) ?_
  refine wp_ifn (by decide) ?_
  refine wp_ifn (by decide) ?_
  refine wp_ck (by decide) ?_
  refine wp_ifn (by decide) ?_
  refine wp_ifn (by decide) ?_
  refine wp_ck (by decide) ?_
  refine wp_ck (by decide) ?_
  refine wp_in3 ?_
  refine wp_of (uf_X1_run _ _ _ _ _ _ _ _ _ _) ?_
  refine wp_of (uf_X1_runo _ _ _ _ _ _ _ _ _ _) ?_
  refine wp_in2 ?_
  refine wp_of (uf_X1_note _ _ _ _) ?_
  refine wp_ifn (by decide) ?_
  refine wp_ck (i_inb (by decide) (by rw [show (((0 : Int32) + (1 : Int32))).toInt = 1 from by decide]; (try simp only [is_len]); omega)) ?_
  refine wp_nm (fun y5 h5 => ?_)
  subst h5
  refine wp_of (uf_X1_note_19 _ _ _) ?_
  refine wp_nm (fun y6 h6 => ?_)
  subst h6
  refine wp_so2 ?_
  show wp _ _
  refine wp_ifn (by decide) ?_
  refine wp_ifn (by decide) ?_
  refine wp_ifn (by decide) ?_
  refine wp_ifn (by decide) ?_
  refine wp_ifn (by decide) ?_
  refine wp_ifp (by decide) ?_
  refine wp_in3 ?_
  refine wp_of (uf_X1_call _ _ _ _ _ _ _ _ _ _) ?_
  refine wp_of (uf_X1_call_6 _ _ _ _ _ _ _ _ _ _ _ _) ?_
  refine wp_ifn (by decide) ?_
  refine wp_ifn (by decide) ?_
  refine wp_ck (by decide) ?_
  refine wp_ifn (by decide) ?_
  refine wp_ifn (by decide) ?_
  refine wp_ck (by decide) ?_
  refine wp_ck (by decide) ?_
  refine wp_in3 ?_
  refine wp_of (uf_X1_run _ _ _ _ _ _ _ _ _ _) ?_
  refine wp_of (uf_X1_runo _ _ _ _ _ _ _ _ _ _) ?_
  refine wp_in2 ?_
  refine wp_of (uf_X1_note _ _ _ _) ?_
  refine wp_ifn (by decide) ?_
  refine wp_ck (i_inb (by decide) (by rw [show ((((0 : Int32) + (1 : Int32)) + (1 : Int32))).toInt = 2 from by decide]; (try simp only [is_len]); omega)) ?_
  refine wp_nm (fun y7 h7 => ?_)
  subst h7
  refine wp_of (uf_X1_note_19 _ _ _) ?_
  refine wp_nm (fun y8 h8 => ?_)
  subst h8
  refine wp_so2 ?_
  show wp _ _
  refine wp_ifn (by decide) ?_
  refine wp_ifn (by decide) ?_
  refine wp_ifp (by decide) ?_
  refine wp_in3 ?_
  refine wp_of (uf_X1_call _ _ _ _ _ _ _ _ _ _) ?_
  refine wp_of (uf_X1_call_6 _ _ _ _ _ _ _ _ _ _ _ _) ?_
  refine wp_ifn (by decide) ?_
  refine wp_ifn (by decide) ?_
  refine wp_ck (by decide) ?_
  refine wp_ifp (by decide) ?_
  refine wp_ck (by decide) ?_
  refine wp_nm (fun y9 h9 => ?_)
  subst h9
  refine wp_nm (fun y10 h10 => ?_)
  subst h10
  refine wp_of (uf_X1_call_6 _ _ _ _ _ _ _ _ _ _ _ _) ?_
  refine wp_ifn (by decide) ?_
  refine wp_ifn (by decide) ?_
  refine wp_ck (by decide) ?_
  refine wp_ifp (by decide) ?_
  refine wp_ck (by decide) ?_
  refine wp_nm (fun y11 h11 => ?_)
  subst h11
  refine wp_nm (fun y12 h12 => ?_)
  subst h12
  refine wp_of (uf_X1_call_6 _ _ _ _ _ _ _ _ _ _ _ _) ?_
  refine wp_ifn (by decide) ?_
  refine wp_ifn (by decide) ?_
  refine wp_ck (by decide) ?_
  refine wp_ifp (by decide) ?_
  refine wp_ck (by decide) ?_
  refine wp_nm (fun y13 h13 => ?_)
  subst h13
  refine wp_nm (fun y14 h14 => ?_)
  subst h14
  refine wp_of (uf_X1_call_6 _ _ _ _ _ _ _ _ _ _ _ _) ?_
  refine wp_ifn (by decide) ?_
  refine wp_ifn (by decide) ?_
  refine wp_ck (by decide) ?_
  refine wp_ifn (by decide) ?_
  refine wp_ifn (by decide) ?_
  refine wp_ck (by decide) ?_
  refine wp_ck (by decide) ?_
  refine wp_in3 ?_
  refine wp_of (uf_X1_run _ _ _ _ _ _ _ _ _ _) ?_
  refine wp_of (uf_X1_runo _ _ _ _ _ _ _ _ _ _) ?_
  refine wp_in2 ?_
  refine wp_of (uf_X1_note _ _ _ _) ?_
  refine wp_ifn (by decide) ?_
  refine wp_ck (i_inb (by decide) (by rw [show (((((0 : Int32) + (1 : Int32)) + (1 : Int32)) + (1 : Int32))).toInt = 3 from by decide]; (try simp only [is_len]); omega)) ?_
  refine wp_nm (fun y15 h15 => ?_)
  subst h15
  refine wp_of (uf_X1_note_19 _ _ _) ?_
  refine wp_nm (fun y16 h16 => ?_)
  subst h16
  refine wp_so2 ?_
  show wp _ _
  refine wp_ifp (by decide) ?_
  refine wp_so3 ?_
  show wp _ _
  refine wp_so3 ?_
  show wp _ _
  refine wp_so3 ?_
  show wp _ _
  refine wp_so3 ?_
  show wp _ _
  refine wp_so3 ?_
  show wp _ _
  refine wp_so3 ?_
  show wp _ _
  refine wp_so3 ?_
  show wp _ _
  exact wp_so3 ⟨rfl, rfl, rfl⟩

set_option maxRecDepth 20000 in
theorem ac8_5_2 (x b : Int32) (tr : List Int32) (hl : tr.length = 24) : wp (fX1_call 700 (fX1_run 700 42) (5 : Int32) (5 : Int32) (2 : Int32) x (0 : Int32) (0 : Int32) b tr) (cu3 (fun r0 r1 r2 => r0 = ((x ^^^ b) * (3 : Int32)) ∧ r1 = (((0 : Int32) + (1 : Int32)) + (1 : Int32)) ∧ r2 = (mm_is (mm_is tr (0 : Int32) (mm_ig mm_OWN (((4 : Int32) * (mm_ig mm_ABOVE (5 : Int32))) + (2 : Int32)))) ((0 : Int32) + (1 : Int32)) (mm_ig mm_OWN (((4 : Int32) * (mm_ig mm_ABOVE (mm_ig mm_ABOVE (mm_ig mm_ABOVE (5 : Int32))))) + (2 : Int32)))))) := by
  refine wp_of (uf_X1_call _ _ _ _ _ _ _ _ _ _) ?_
  refine wp_of (uf_X1_call_6 _ _ _ _ _ _ _ _ _ _ _ _) ?_
  refine wp_ifn (by decide) ?_
  refine wp_ifn (by decide) ?_
  refine wp_ck (by decide) ?_
  refine wp_ifp (by decide) ?_
  refine wp_ck (by decide) ?_
  refine wp_nm (fun y1 h1 => ?_)
  subst h1
  refine wp_nm (fun y2 h2 => ?_)
  subst h2
  refine wp_of (uf_X1_call_6 _ _ _ _ _ _ _ _ _ _ _ _) ?_
  refine wp_ifn (by decide) ?_
  refine wp_ifn (by decide) ?_
  refine wp_ck (by decide) ?_
  refine wp_ifn (by decide) ?_
  refine wp_ifn (by decide) ?_
  refine wp_ck (by decide) ?_
  refine wp_ck (by decide) ?_
  refine wp_in3 ?_
  refine wp_of (uf_X1_run _ _ _ _ _ _ _ _ _ _) ?_
  refine wp_of (uf_X1_runo _ _ _ _ _ _ _ _ _ _) ?_
  refine wp_in2 ?_
  refine wp_of (uf_X1_note _ _ _ _) ?_
  refine wp_ifn (by decide) ?_
  refine wp_ck (i_inb (by decide) (by rw [show ((0 : Int32)).toInt = 0 from by decide]; (try simp only [is_len]); omega)) ?_
  refine wp_nm (fun y3 h3 => ?_)
  subst h3
  refine wp_of (uf_X1_note_19 _ _ _) ?_
  refine wp_nm (fun y4 h4 => ?_)
  subst h4
  refine wp_so2 ?_
  show wp _ _
  refine wp_ifn (by decide) ?_
  refine wp_ifn (by decide) ?_
  refine wp_ifn (by decide) ?_
  refine wp_ifn (by decide) ?_
  refine wp_ifn (by decide) ?_
  refine wp_ifn (by decide) ?_
  refine wp_ifp (by decide) ?_
  refine wp_in3 ?_
  refine wp_of (uf_X1_call _ _ _ _ _ _ _ _ _ _) ?_
  refine wp_of (uf_X1_call_6 _ _ _ _ _ _ _ _ _ _ _ _) ?_
  refine wp_ifn (by decide) ?_
  refine wp_ifn (by decide) ?_
  refine wp_ck (by decide) ?_
  refine wp_ifp (by decide) ?_
  refine wp_ck (by decide) ?_
  refine wp_nm (fun y5 h5 => ?_)
  subst h5
  refine wp_nm (fun y6 h6 => ?_)
  subst h6
  refine wp_of (uf_X1_call_6 _ _ _ _ _ _ _ _ _ _ _ _) ?_
  refine wp_ifn (by decide) ?_
  refine wp_ifn (by decide) ?_
  refine wp_ck (by decide) ?_
  refine wp_ifn (by decide) ?_
  refine wp_ifn (by decide) ?_
  refine wp_ck (by decide) ?_
  refine wp_ck (by decide) ?_
  refine wp_in3 ?_
  refine wp_of (uf_X1_run _ _ _ _ _ _ _ _ _ _) ?_
  refine wp_of (uf_X1_runo _ _ _ _ _ _ _ _ _ _) ?_
  refine wp_in2 ?_
  refine wp_of (uf_X1_note _ _ _ _) ?_
  refine wp_ifn (by decide) ?_
  refine wp_ck (i_inb (by decide) (by rw [show (((0 : Int32) + (1 : Int32))).toInt = 1 from by decide]; (try simp only [is_len]); omega)) ?_
  refine wp_nm (fun y7 h7 => ?_)
  subst h7
  refine wp_of (uf_X1_note_19 _ _ _) ?_
  refine wp_nm (fun y8 h8 => ?_)
  subst h8
  refine wp_so2 ?_
  show wp _ _
  refine wp_ifn (by decide) ?_
  refine wp_ifn (by decide) ?_
  refine wp_ifn (by decide) ?_
  refine wp_ifp (by decide) ?_
  refine wp_so3 ?_
  show wp _ _
  refine wp_so3 ?_
  show wp _ _
  refine wp_so3 ?_
  show wp _ _
  exact wp_so3 ⟨rfl, rfl, rfl⟩

set_option maxRecDepth 20000 in
theorem ac8_5_3 (x b : Int32) (tr : List Int32) (hl : tr.length = 24) : wp (fX1_call 700 (fX1_run 700 42) (5 : Int32) (5 : Int32) (3 : Int32) x (0 : Int32) (0 : Int32) b tr) (cu3 (fun r0 r1 r2 => r0 = (((-(((x + (1 : Int32)) + b) * (2 : Int32))) - (((1 : Int32) ^^^ b) * (3 : Int32))) ^^^ (5 : Int32)) ∧ r1 = (((((((((0 : Int32) + (1 : Int32)) + (1 : Int32)) + (1 : Int32)) + (1 : Int32)) + (1 : Int32)) + (1 : Int32)) + (1 : Int32)) + (1 : Int32)) ∧ r2 = (mm_is (mm_is (mm_is (mm_is (mm_is (mm_is (mm_is (mm_is tr (0 : Int32) (mm_ig mm_OWN (((4 : Int32) * (5 : Int32)) + (3 : Int32)))) ((0 : Int32) + (1 : Int32)) (mm_ig mm_OWN (((4 : Int32) * (mm_ig mm_ABOVE (mm_ig mm_ABOVE (mm_ig mm_ABOVE (5 : Int32))))) + (3 : Int32)))) (((0 : Int32) + (1 : Int32)) + (1 : Int32)) (mm_ig mm_OWN (((4 : Int32) * (mm_ig mm_ABOVE (5 : Int32))) + (1 : Int32)))) ((((0 : Int32) + (1 : Int32)) + (1 : Int32)) + (1 : Int32)) (mm_ig mm_OWN (((4 : Int32) * (mm_ig mm_ABOVE (mm_ig mm_ABOVE (5 : Int32)))) + (1 : Int32)))) (((((0 : Int32) + (1 : Int32)) + (1 : Int32)) + (1 : Int32)) + (1 : Int32)) (mm_ig mm_OWN (((4 : Int32) * (mm_ig mm_ABOVE (mm_ig mm_ABOVE (mm_ig mm_ABOVE (5 : Int32))))) + (1 : Int32)))) ((((((0 : Int32) + (1 : Int32)) + (1 : Int32)) + (1 : Int32)) + (1 : Int32)) + (1 : Int32)) (mm_ig mm_OWN (((4 : Int32) * (mm_ig mm_ABOVE (mm_ig mm_ABOVE (mm_ig mm_ABOVE (5 : Int32))))) + (0 : Int32)))) (((((((0 : Int32) + (1 : Int32)) + (1 : Int32)) + (1 : Int32)) + (1 : Int32)) + (1 : Int32)) + (1 : Int32)) (mm_ig mm_OWN (((4 : Int32) * (mm_ig mm_ABOVE (5 : Int32))) + (2 : Int32)))) ((((((((0 : Int32) + (1 : Int32)) + (1 : Int32)) + (1 : Int32)) + (1 : Int32)) + (1 : Int32)) + (1 : Int32)) + (1 : Int32)) (mm_ig mm_OWN (((4 : Int32) * (mm_ig mm_ABOVE (mm_ig mm_ABOVE (mm_ig mm_ABOVE (5 : Int32))))) + (2 : Int32)))))) := by
  refine wp_of (uf_X1_call _ _ _ _ _ _ _ _ _ _) ?_
  refine wp_of (uf_X1_call_6 _ _ _ _ _ _ _ _ _ _ _ _) ?_
  refine wp_ifn (by decide) ?_
  refine wp_ifn (by decide) ?_
  refine wp_ck (by decide) ?_
  refine wp_ifn (by decide) ?_
  refine wp_ifn (by decide) ?_
  refine wp_ck (by decide) ?_
  refine wp_ck (by decide) ?_
  refine wp_in3 ?_
  refine wp_of (uf_X1_run _ _ _ _ _ _ _ _ _ _) ?_
  refine wp_of (uf_X1_runo _ _ _ _ _ _ _ _ _ _) ?_
  refine wp_in2 ?_
  refine wp_of (uf_X1_note _ _ _ _) ?_
  refine wp_ifn (by decide) ?_
  refine wp_ck (i_inb (by decide) (by rw [show ((0 : Int32)).toInt = 0 from by decide]; (try simp only [is_len]); omega)) ?_
  refine wp_nm (fun y1 h1 => ?_)
  subst h1
  refine wp_of (uf_X1_note_19 _ _ _) ?_
  refine wp_nm (fun y2 h2 => ?_)
  subst h2
  refine wp_so2 ?_
  show wp _ _
  refine wp_ifn (by decide) ?_
  refine wp_ifn (by decide) ?_
  refine wp_ifn (by decide) ?_
  refine wp_ifn (by decide) ?_
  refine wp_ifn (by decide) ?_
  refine wp_ifn (by decide) ?_
  refine wp_ifn (by decide) ?_
  refine wp_ifn (by decide) ?_
  refine wp_ifn (by decide) ?_
  refine wp_ifp (by decide) ?_
  refine wp_in3 ?_
  refine wp_of (uf_X1_call _ _ _ _ _ _ _ _ _ _) ?_
  refine wp_of (uf_X1_call_6 _ _ _ _ _ _ _ _ _ _ _ _) ?_
  refine wp_ifn (by decide) ?_
  refine wp_ifn (by decide) ?_
  refine wp_ck (by decide) ?_
  refine wp_ifp (by decide) ?_
  refine wp_ck (by decide) ?_
  refine wp_nm (fun y3 h3 => ?_)
  subst h3
  refine wp_nm (fun y4 h4 => ?_)
  subst h4
  refine wp_of (uf_X1_call_6 _ _ _ _ _ _ _ _ _ _ _ _) ?_
  refine wp_ifn (by decide) ?_
  refine wp_ifn (by decide) ?_
  refine wp_ck (by decide) ?_
  refine wp_ifp (by decide) ?_
  refine wp_ck (by decide) ?_
  refine wp_nm (fun y5 h5 => ?_)
  subst h5
  refine wp_nm (fun y6 h6 => ?_)
  subst h6
  refine wp_of (uf_X1_call_6 _ _ _ _ _ _ _ _ _ _ _ _) ?_
  refine wp_ifn (by decide) ?_
  refine wp_ifn (by decide) ?_
  refine wp_ck (by decide) ?_
  refine wp_ifn (by decide) ?_
  refine wp_ifn (by decide) ?_
  refine wp_ck (by decide) ?_
  refine wp_ck (by decide) ?_
  refine wp_in3 ?_
  refine wp_of (uf_X1_run _ _ _ _ _ _ _ _ _ _) ?_
  refine wp_of (uf_X1_runo _ _ _ _ _ _ _ _ _ _) ?_
  refine wp_in2 ?_
  refine wp_of (uf_X1_note _ _ _ _) ?_
  refine wp_ifn (by decide) ?_
  refine wp_ck (i_inb (by decide) (by rw [show (((0 : Int32) + (1 : Int32))).toInt = 1 from by decide]; (try simp only [is_len]); omega)) ?_
  refine wp_nm (fun y7 h7 => ?_)
  subst h7
  refine wp_of (uf_X1_note_19 _ _ _) ?_
  refine wp_nm (fun y8 h8 => ?_)
  subst h8
  refine wp_so2 ?_
  show wp _ _
  refine wp_ifn (by decide) ?_
  refine wp_ifp (by decide) ?_
  refine wp_in3 ?_
  refine wp_of (uf_X1_call _ _ _ _ _ _ _ _ _ _) ?_
  refine wp_of (uf_X1_call_6 _ _ _ _ _ _ _ _ _ _ _ _) ?_
  refine wp_ifn (by decide) ?_
  refine wp_ifn (by decide) ?_
  refine wp_ck (by decide) ?_
  refine wp_ifp (by decide) ?_
  refine wp_ck (by decide) ?_
  refine wp_nm (fun y9 h9 => ?_)
  subst h9
  refine wp_nm (fun y10 h10 => ?_)
  subst h10
  refine wp_of (uf_X1_call_6 _ _ _ _ _ _ _ _ _ _ _ _) ?_
  refine wp_ifn (by decide) ?_
  refine wp_ifn (by decide) ?_
  refine wp_ck (by decide) ?_
  refine wp_ifn (by decide) ?_
  refine wp_ifn (by decide) ?_
  refine wp_ck (by decide) ?_
  refine wp_ck (by decide) ?_
  refine wp_in3 ?_
  refine wp_of (uf_X1_run _ _ _ _ _ _ _ _ _ _) ?_
  refine wp_of (uf_X1_runo _ _ _ _ _ _ _ _ _ _) ?_
  refine wp_in2 ?_
  refine wp_of (uf_X1_note _ _ _ _) ?_
  refine wp_ifn (by decide) ?_
  refine wp_ck (i_inb (by decide) (by rw [show ((((0 : Int32) + (1 : Int32)) + (1 : Int32))).toInt = 2 from by decide]; (try simp only [is_len]); omega)) ?_
  refine wp_nm (fun y11 h11 => ?_)
  subst h11
  refine wp_of (uf_X1_note_19 _ _ _) ?_
  refine wp_nm (fun y12 h12 => ?_)
  subst h12
  refine wp_so2 ?_
  show wp _ _
  refine wp_ifn (by decide) ?_
  refine wp_ifn (by decide) ?_
  refine wp_ifn (by decide) ?_
  refine wp_ifn (by decide) ?_
  refine wp_ifn (by decide) ?_
  refine wp_ifn (by decide) ?_
  refine wp_ifn (by decide) ?_
  refine wp_ifp (by decide) ?_
  refine wp_in3 ?_
  refine wp_of (uf_X1_call _ _ _ _ _ _ _ _ _ _) ?_
  refine wp_of (uf_X1_call_6 _ _ _ _ _ _ _ _ _ _ _ _) ?_
  refine wp_ifn (by decide) ?_
  refine wp_ifn (by decide) ?_
  refine wp_ck (by decide) ?_
  refine wp_ifn (by decide) ?_
  refine wp_ifn (by decide) ?_
  refine wp_ck (by decide) ?_
  refine wp_ck (by decide) ?_
  refine wp_in3 ?_
  refine wp_of (uf_X1_run _ _ _ _ _ _ _ _ _ _) ?_
  refine wp_of (uf_X1_runo _ _ _ _ _ _ _ _ _ _) ?_
  refine wp_in2 ?_
  refine wp_of (uf_X1_note _ _ _ _) ?_
  refine wp_ifn (by decide) ?_
  refine wp_ck (i_inb (by decide) (by rw [show (((((0 : Int32) + (1 : Int32)) + (1 : Int32)) + (1 : Int32))).toInt = 3 from by decide]; (try simp only [is_len]); omega)) ?_
  refine wp_nm (fun y13 h13 => ?_)
  subst h13
  refine wp_of (uf_X1_note_19 _ _ _) ?_
  refine wp_nm (fun y14 h14 => ?_)
  subst h14
  refine wp_so2 ?_
  show wp _ _
  refine wp_ifn (by decide) ?_
  refine wp_ifn (by decide) ?_
  refine wp_ifn (by decide) ?_
  refine wp_ifn (by decide) ?_
  refine wp_ifn (by decide) ?_
  refine wp_ifp (by decide) ?_
  refine wp_in3 ?_
  refine wp_of (uf_X1_call _ _ _ _ _ _ _ _ _ _) ?_
  refine wp_of (uf_X1_call_6 _ _ _ _ _ _ _ _ _ _ _ _) ?_
  refine wp_ifn (by decide) ?_
  refine wp_ifn (by decide) ?_
  refine wp_ck (by decide) ?_
  refine wp_ifn (by decide) ?_
  refine wp_ifn (by decide) ?_
  refine wp_ck (by decide) ?_
  refine wp_ck (by decide) ?_
  refine wp_in3 ?_
  refine wp_of (uf_X1_run _ _ _ _ _ _ _ _ _ _) ?_
  refine wp_of (uf_X1_runo _ _ _ _ _ _ _ _ _ _) ?_
  refine wp_in2 ?_
  refine wp_of (uf_X1_note _ _ _ _) ?_
  refine wp_ifn (by decide) ?_
  refine wp_ck (i_inb (by decide) (by rw [show ((((((0 : Int32) + (1 : Int32)) + (1 : Int32)) + (1 : Int32)) + (1 : Int32))).toInt = 4 from by decide]; (try simp only [is_len]); omega)) ?_
  refine wp_nm (fun y15 h15 => ?_)
  subst h15
  refine wp_of (uf_X1_note_19 _ _ _) ?_
  refine wp_nm (fun y16 h16 => ?_)
  subst h16
  refine wp_so2 ?_
  show wp _ _
  refine wp_ifn (by decide) ?_
  refine wp_ifn (by decide) ?_
  refine wp_ifp (by decide) ?_
  refine wp_in3 ?_
  refine wp_of (uf_X1_call _ _ _ _ _ _ _ _ _ _) ?_
  refine wp_of (uf_X1_call_6 _ _ _ _ _ _ _ _ _ _ _ _) ?_
  refine wp_ifn (by decide) ?_
  refine wp_ifn (by decide) ?_
  refine wp_ck (by decide) ?_
  refine wp_ifp (by decide) ?_
  refine wp_ck (by decide) ?_
  refine wp_nm (fun y17 h17 => ?_)
  subst h17
  refine wp_nm (fun y18 h18 => ?_)
  subst h18
  refine wp_of (uf_X1_call_6 _ _ _ _ _ _ _ _ _ _ _ _) ?_
  refine wp_ifn (by decide) ?_
  refine wp_ifn (by decide) ?_
  refine wp_ck (by decide) ?_
  refine wp_ifp (by decide) ?_
  refine wp_ck (by decide) ?_
  refine wp_nm (fun y19 h19 => ?_)
  subst h19
  refine wp_nm (fun y20 h20 => ?_)
  subst h20
  refine wp_of (uf_X1_call_6 _ _ _ _ _ _ _ _ _ _ _ _) ?_
  refine wp_ifn (by decide) ?_
  refine wp_ifn (by decide) ?_
  refine wp_ck (by decide) ?_
  refine wp_ifp (by decide) ?_
  refine wp_ck (by decide) ?_
  refine wp_nm (fun y21 h21 => ?_)
  subst h21
  refine wp_nm (fun y22 h22 => ?_)
  subst h22
  refine wp_of (uf_X1_call_6 _ _ _ _ _ _ _ _ _ _ _ _) ?_
  refine wp_ifn (by decide) ?_
  refine wp_ifn (by decide) ?_
  refine wp_ck (by decide) ?_
  refine wp_ifn (by decide) ?_
  refine wp_ifn (by decide) ?_
  refine wp_ck (by decide) ?_
  refine wp_ck (by decide) ?_
  refine wp_in3 ?_
  refine wp_of (uf_X1_run _ _ _ _ _ _ _ _ _ _) ?_
  refine wp_of (uf_X1_runo _ _ _ _ _ _ _ _ _ _) ?_
  refine wp_in2 ?_
  refine wp_of (uf_X1_note _ _ _ _) ?_
  refine wp_ifn (by decide) ?_
  refine wp_ck (i_inb (by decide) (by rw [show (((((((0 : Int32) + (1 : Int32)) + (1 : Int32)) + (1 : Int32)) + (1 : Int32)) + (1 : Int32))).toInt = 5 from by decide]; (try simp only [is_len]); omega)) ?_
  refine wp_nm (fun y23 h23 => ?_)
  subst h23
  refine wp_of (uf_X1_note_19 _ _ _) ?_
  refine wp_nm (fun y24 h24 => ?_)
  subst h24
  refine wp_so2 ?_
  show wp _ _
  refine wp_ifp (by decide) ?_
  refine wp_so3 ?_
  show wp _ _
  refine wp_so3 ?_
  show wp _ _
  refine wp_so3 ?_
  show wp _ _
  refine wp_so3 ?_
  show wp _ _
  refine wp_so3 ?_
  show wp _ _
  refine wp_so3 ?_
  show wp _ _
  refine wp_so3 ?_
  show wp _ _
  refine wp_so3 ?_
  show wp _ _
  refine wp_in3 ?_
  refine wp_of (uf_X1_call _ _ _ _ _ _ _ _ _ _) ?_
  refine wp_of (uf_X1_call_6 _ _ _ _ _ _ _ _ _ _ _ _) ?_
  refine wp_ifn (by decide) ?_
  refine wp_ifn (by decide) ?_
  refine wp_ck (by decide) ?_
  refine wp_ifp (by decide) ?_
  refine wp_ck (by decide) ?_
  refine wp_nm (fun y25 h25 => ?_)
  subst h25
  refine wp_nm (fun y26 h26 => ?_)
  subst h26
  refine wp_of (uf_X1_call_6 _ _ _ _ _ _ _ _ _ _ _ _) ?_
  refine wp_ifn (by decide) ?_
  refine wp_ifn (by decide) ?_
  refine wp_ck (by decide) ?_
  refine wp_ifn (by decide) ?_
  refine wp_ifn (by decide) ?_
  refine wp_ck (by decide) ?_
  refine wp_ck (by decide) ?_
  refine wp_in3 ?_
  refine wp_of (uf_X1_run _ _ _ _ _ _ _ _ _ _) ?_
  refine wp_of (uf_X1_runo _ _ _ _ _ _ _ _ _ _) ?_
  refine wp_in2 ?_
  refine wp_of (uf_X1_note _ _ _ _) ?_
  refine wp_ifn (by decide) ?_
  refine wp_ck (i_inb (by decide) (by rw [show ((((((((0 : Int32) + (1 : Int32)) + (1 : Int32)) + (1 : Int32)) + (1 : Int32)) + (1 : Int32)) + (1 : Int32))).toInt = 6 from by decide]; (try simp only [is_len]); omega)) ?_
  refine wp_nm (fun y27 h27 => ?_)
  subst h27
  refine wp_of (uf_X1_note_19 _ _ _) ?_
  refine wp_nm (fun y28 h28 => ?_)
  subst h28
  refine wp_so2 ?_
  show wp _ _
  refine wp_ifn (by decide) ?_
  refine wp_ifn (by decide) ?_
  refine wp_ifn (by decide) ?_
  refine wp_ifn (by decide) ?_
  refine wp_ifn (by decide) ?_
  refine wp_ifn (by decide) ?_
  refine wp_ifp (by decide) ?_
  refine wp_in3 ?_
  refine wp_of (uf_X1_call _ _ _ _ _ _ _ _ _ _) ?_
  refine wp_of (uf_X1_call_6 _ _ _ _ _ _ _ _ _ _ _ _) ?_
  refine wp_ifn (by decide) ?_
  refine wp_ifn (by decide) ?_
  refine wp_ck (by decide) ?_
  refine wp_ifp (by decide) ?_
  refine wp_ck (by decide) ?_
  refine wp_nm (fun y29 h29 => ?_)
  subst h29
  refine wp_nm (fun y30 h30 => ?_)
  subst h30
  refine wp_of (uf_X1_call_6 _ _ _ _ _ _ _ _ _ _ _ _) ?_
  refine wp_ifn (by decide) ?_
  refine wp_ifn (by decide) ?_
  refine wp_ck (by decide) ?_
  refine wp_ifn (by decide) ?_
  refine wp_ifn (by decide) ?_
  refine wp_ck (by decide) ?_
  refine wp_ck (by decide) ?_
  refine wp_in3 ?_
  refine wp_of (uf_X1_run _ _ _ _ _ _ _ _ _ _) ?_
  refine wp_of (uf_X1_runo _ _ _ _ _ _ _ _ _ _) ?_
  refine wp_in2 ?_
  refine wp_of (uf_X1_note _ _ _ _) ?_
  refine wp_ifn (by decide) ?_
  refine wp_ck (i_inb (by decide) (by rw [show (((((((((0 : Int32) + (1 : Int32)) + (1 : Int32)) + (1 : Int32)) + (1 : Int32)) + (1 : Int32)) + (1 : Int32)) + (1 : Int32))).toInt = 7 from by decide]; (try simp only [is_len]); omega)) ?_
  refine wp_nm (fun y31 h31 => ?_)
  subst h31
  refine wp_of (uf_X1_note_19 _ _ _) ?_
  refine wp_nm (fun y32 h32 => ?_)
  subst h32
  refine wp_so2 ?_
  show wp _ _
  refine wp_ifn (by decide) ?_
  refine wp_ifn (by decide) ?_
  refine wp_ifn (by decide) ?_
  refine wp_ifp (by decide) ?_
  refine wp_so3 ?_
  show wp _ _
  refine wp_so3 ?_
  show wp _ _
  refine wp_so3 ?_
  show wp _ _
  refine wp_so3 ?_
  show wp _ _
  refine wp_so3 ?_
  show wp _ _
  refine wp_so3 ?_
  show wp _ _
  refine wp_so3 ?_
  show wp _ _
  exact wp_so3 ⟨rfl, rfl, rfl⟩

set_option maxRecDepth 20000 in
theorem ac8_6_0 (x b : Int32) (tr : List Int32) (hl : tr.length = 24) : wp (fX1_call 700 (fX1_run 700 42) (6 : Int32) (6 : Int32) (0 : Int32) x (0 : Int32) (0 : Int32) b tr) (cu3 (fun r0 r1 r2 => r0 = (((x + b) + (3 : Int32)) * (2 : Int32)) ∧ r1 = ((((0 : Int32) + (1 : Int32)) + (1 : Int32)) + (1 : Int32)) ∧ r2 = (mm_is (mm_is (mm_is tr (0 : Int32) (mm_ig mm_OWN (((4 : Int32) * (6 : Int32)) + (0 : Int32)))) ((0 : Int32) + (1 : Int32)) (mm_ig mm_OWN (((4 : Int32) * (mm_ig mm_ABOVE (6 : Int32))) + (0 : Int32)))) (((0 : Int32) + (1 : Int32)) + (1 : Int32)) (mm_ig mm_OWN (((4 : Int32) * (mm_ig mm_ABOVE (mm_ig mm_ABOVE (6 : Int32)))) + (0 : Int32)))))) := by
  refine wp_of (uf_X1_call _ _ _ _ _ _ _ _ _ _) ?_
  refine wp_of (uf_X1_call_6 _ _ _ _ _ _ _ _ _ _ _ _) ?_
  refine wp_ifn (by decide) ?_
  refine wp_ifn (by decide) ?_
  refine wp_ck (by decide) ?_
  refine wp_ifn (by decide) ?_
  refine wp_ifn (by decide) ?_
  refine wp_ck (by decide) ?_
  refine wp_ck (by decide) ?_
  refine wp_in3 ?_
  refine wp_of (uf_X1_run _ _ _ _ _ _ _ _ _ _) ?_
  refine wp_of (uf_X1_runo _ _ _ _ _ _ _ _ _ _) ?_
  refine wp_in2 ?_
  refine wp_of (uf_X1_note _ _ _ _) ?_
  refine wp_ifn (by decide) ?_
  refine wp_ck (i_inb (by decide) (by rw [show ((0 : Int32)).toInt = 0 from by decide]; (try simp only [is_len]); omega)) ?_
  refine wp_nm (fun y1 h1 => ?_)
  subst h1
  refine wp_of (uf_X1_note_19 _ _ _) ?_
  refine wp_nm (fun y2 h2 => ?_)
  subst h2
  refine wp_so2 ?_
  show wp _ _
  refine wp_ifn (by decide) ?_
  refine wp_ifn (by decide) ?_
  refine wp_ifn (by decide) ?_
  refine wp_ifn (by decide) ?_
  refine wp_ifn (by decide) ?_
  refine wp_ifn (by decide) ?_
  refine wp_ifn (by decide) ?_
  refine wp_ifn (by decide) ?_
  refine wp_ifn (by decide) ?_
  refine wp_ifn (by decide) ?_
  refine wp_ifp (by decide) ?_
  refine wp_in3 ?_
  refine wp_of (uf_X1_call _ _ _ _ _ _ _ _ _ _) ?_
  refine wp_of (uf_X1_call_6 _ _ _ _ _ _ _ _ _ _ _ _) ?_
  refine wp_ifn (by decide) ?_
  refine wp_ifn (by decide) ?_
  refine wp_ck (by decide) ?_
  refine wp_ifn (by decide) ?_
  refine wp_ifn (by decide) ?_
  refine wp_ck (by decide) ?_
  refine wp_ck (by decide) ?_
  refine wp_in3 ?_
  refine wp_of (uf_X1_run _ _ _ _ _ _ _ _ _ _) ?_
  refine wp_of (uf_X1_runo _ _ _ _ _ _ _ _ _ _) ?_
  refine wp_in2 ?_
  refine wp_of (uf_X1_note _ _ _ _) ?_
  refine wp_ifn (by decide) ?_
  refine wp_ck (i_inb (by decide) (by rw [show (((0 : Int32) + (1 : Int32))).toInt = 1 from by decide]; (try simp only [is_len]); omega)) ?_
  refine wp_nm (fun y3 h3 => ?_)
  subst h3
  refine wp_of (uf_X1_note_19 _ _ _) ?_
  refine wp_nm (fun y4 h4 => ?_)
  subst h4
  refine wp_so2 ?_
  show wp _ _
  refine wp_ifn (by decide) ?_
  refine wp_ifn (by decide) ?_
  refine wp_ifn (by decide) ?_
  refine wp_ifn (by decide) ?_
  refine wp_ifp (by decide) ?_
  refine wp_in3 ?_
  refine wp_of (uf_X1_call _ _ _ _ _ _ _ _ _ _) ?_
  refine wp_of (uf_X1_call_6 _ _ _ _ _ _ _ _ _ _ _ _) ?_
  refine wp_ifn (by decide) ?_
  refine wp_ifn (by decide) ?_
  refine wp_ck (by decide) ?_
  refine wp_ifn (by decide) ?_
  refine wp_ifn (by decide) ?_
  refine wp_ck (by decide) ?_
  refine wp_ck (by decide) ?_
  refine wp_in3 ?_
  refine wp_of (uf_X1_run _ _ _ _ _ _ _ _ _ _) ?_
  refine wp_of (uf_X1_runo _ _ _ _ _ _ _ _ _ _) ?_
  refine wp_in2 ?_
  refine wp_of (uf_X1_note _ _ _ _) ?_
  refine wp_ifn (by decide) ?_
  refine wp_ck (i_inb (by decide) (by rw [show ((((0 : Int32) + (1 : Int32)) + (1 : Int32))).toInt = 2 from by decide]; (try simp only [is_len]); omega)) ?_
  refine wp_nm (fun y5 h5 => ?_)
  subst h5
  refine wp_of (uf_X1_note_19 _ _ _) ?_
  refine wp_nm (fun y6 h6 => ?_)
  subst h6
  refine wp_so2 ?_
  show wp _ _
  refine wp_ifp (by decide) ?_
  refine wp_so3 ?_
  show wp _ _
  refine wp_so3 ?_
  show wp _ _
  refine wp_so3 ?_
  show wp _ _
  refine wp_so3 ?_
  show wp _ _
  refine wp_so3 ?_
  show wp _ _
  exact wp_so3 ⟨rfl, rfl, rfl⟩

set_option maxRecDepth 20000 in
theorem ac8_6_1 (x b : Int32) (tr : List Int32) (hl : tr.length = 24) : wp (fX1_call 700 (fX1_run 700 42) (6 : Int32) (6 : Int32) (1 : Int32) x (0 : Int32) (0 : Int32) b tr) (cu3 (fun r0 r1 r2 => r0 = ((((x + b) + (3 : Int32)) * (2 : Int32)) * (2 : Int32)) ∧ r1 = (((((0 : Int32) + (1 : Int32)) + (1 : Int32)) + (1 : Int32)) + (1 : Int32)) ∧ r2 = (mm_is (mm_is (mm_is (mm_is tr (0 : Int32) (mm_ig mm_OWN (((4 : Int32) * (mm_ig mm_ABOVE (mm_ig mm_ABOVE (6 : Int32)))) + (1 : Int32)))) ((0 : Int32) + (1 : Int32)) (mm_ig mm_OWN (((4 : Int32) * (6 : Int32)) + (0 : Int32)))) (((0 : Int32) + (1 : Int32)) + (1 : Int32)) (mm_ig mm_OWN (((4 : Int32) * (mm_ig mm_ABOVE (6 : Int32))) + (0 : Int32)))) ((((0 : Int32) + (1 : Int32)) + (1 : Int32)) + (1 : Int32)) (mm_ig mm_OWN (((4 : Int32) * (mm_ig mm_ABOVE (mm_ig mm_ABOVE (6 : Int32)))) + (0 : Int32)))))) := by
  refine wp_of (uf_X1_call _ _ _ _ _ _ _ _ _ _) ?_
  refine wp_of (uf_X1_call_6 _ _ _ _ _ _ _ _ _ _ _ _) ?_
  refine wp_ifn (by decide) ?_
  refine wp_ifn (by decide) ?_
  refine wp_ck (by decide) ?_
  refine wp_ifp (by decide) ?_
  refine wp_ck (by decide) ?_
  refine wp_nm (fun y1 h1 => ?_)
  subst h1
  refine wp_nm (fun y2 h2 => ?_)
  subst h2
  refine wp_of (uf_X1_call_6 _ _ _ _ _ _ _ _ _ _ _ _) ?_
  refine wp_ifn (by decide) ?_
  refine wp_ifn (by decide) ?_
  refine wp_ck (by decide) ?_
  refine wp_ifp (by decide) ?_
  refine wp_ck (by decide) ?_
  refine wp_nm (fun y3 h3 => ?_)
  subst h3
  refine wp_nm (fun y4 h4 => ?_)
  subst h4
  refine wp_of (uf_X1_call_6 _ _ _ _ _ _ _ _ _ _ _ _) ?_
  refine wp_ifn (by decide) ?_
  refine wp_ifn (by decide) ?_
  refine wp_ck (by decide) ?_
  refine wp_ifn (by decide) ?_
  refine wp_ifn (by decide) ?_
  refine wp_ck (by decide) ?_
  refine wp_ck (by decide) ?_
  refine wp_in3 ?_
  refine wp_of (uf_X1_run _ _ _ _ _ _ _ _ _ _) ?_
  refine wp_of (uf_X1_runo _ _ _ _ _ _ _ _ _ _) ?_
  refine wp_in2 ?_
  refine wp_of (uf_X1_note _ _ _ _) ?_
  refine wp_ifn (by decide) ?_
  refine wp_ck (i_inb (by decide) (by rw [show ((0 : Int32)).toInt = 0 from by decide]; (try simp only [is_len]); omega)) ?_
  refine wp_nm (fun y5 h5 => ?_)
  subst h5
  refine wp_of (uf_X1_note_19 _ _ _) ?_
  refine wp_nm (fun y6 h6 => ?_)
  subst h6
  refine wp_so2 ?_
  show wp _ _
  refine wp_ifn (by decide) ?_
  refine wp_ifn (by decide) ?_
  refine wp_ifp (by decide) ?_
  refine wp_in3 ?_
  refine wp_of (uf_X1_call _ _ _ _ _ _ _ _ _ _) ?_
  refine wp_of (uf_X1_call_6 _ _ _ _ _ _ _ _ _ _ _ _) ?_
  refine wp_ifn (by decide) ?_
  refine wp_ifn (by decide) ?_
  refine wp_ck (by decide) ?_
  refine wp_ifn (by decide) ?_
  refine wp_ifn (by decide) ?_
  refine wp_ck (by decide) ?_
  refine wp_ck (by decide) ?_
  refine wp_in3 ?_
  refine wp_of (uf_X1_run _ _ _ _ _ _ _ _ _ _) ?_
  refine wp_of (uf_X1_runo _ _ _ _ _ _ _ _ _ _) ?_
  refine wp_in2 ?_
  refine wp_of (uf_X1_note _ _ _ _) ?_
  refine wp_ifn (by decide) ?_
  refine wp_ck (i_inb (by decide) (by rw [show (((0 : Int32) + (1 : Int32))).toInt = 1 from by decide]; (try simp only [is_len]); omega)) ?_
  refine wp_nm (fun y7 h7 => ?_)
  subst h7
  refine wp_of (uf_X1_note_19 _ _ _) ?_
  refine wp_nm (fun y8 h8 => ?_)
  subst h8
  refine wp_so2 ?_
  show wp _ _
  refine wp_ifn (by decide) ?_
  refine wp_ifn (by decide) ?_
  refine wp_ifn (by decide) ?_
  refine wp_ifn (by decide) ?_
  refine wp_ifn (by decide) ?_
  refine wp_ifn (by decide) ?_
  refine wp_ifn (by decide) ?_
  refine wp_ifn (by decide) ?_
  refine wp_ifn (by decide) ?_
  refine wp_ifn (by decide) ?_
  refine wp_ifp (by decide) ?_
  refine wp_in3 ?_
  refine wp_of (uf_X1_call _ _ _ _ _ _ _ _ _ _) ?_
  refine wp_of (uf_X1_call_6 _ _ _ _ _ _ _ _ _ _ _ _) ?_
  refine wp_ifn (by decide) ?_
  refine wp_ifn (by decide) ?_
  refine wp_ck (by decide) ?_
  refine wp_ifn (by decide) ?_
  refine wp_ifn (by decide) ?_
  refine wp_ck (by decide) ?_
  refine wp_ck (by decide) ?_
  refine wp_in3 ?_
  refine wp_of (uf_X1_run _ _ _ _ _ _ _ _ _ _) ?_
  refine wp_of (uf_X1_runo _ _ _ _ _ _ _ _ _ _) ?_
  refine wp_in2 ?_
  refine wp_of (uf_X1_note _ _ _ _) ?_
  refine wp_ifn (by decide) ?_
  refine wp_ck (i_inb (by decide) (by rw [show ((((0 : Int32) + (1 : Int32)) + (1 : Int32))).toInt = 2 from by decide]; (try simp only [is_len]); omega)) ?_
  refine wp_nm (fun y9 h9 => ?_)
  subst h9
  refine wp_of (uf_X1_note_19 _ _ _) ?_
  refine wp_nm (fun y10 h10 => ?_)
  subst h10
  refine wp_so2 ?_
  show wp _ _
  refine wp_ifn (by decide) ?_
  refine wp_ifn (by decide) ?_
  refine wp_ifn (by decide) ?_
  refine wp_ifn (by decide) ?_
  refine wp_ifp (by decide) ?_
  refine wp_in3 ?_
  refine wp_of (uf_X1_call _ _ _ _ _ _ _ _ _ _) ?_
  refine wp_of (uf_X1_call_6 _ _ _ _ _ _ _ _ _ _ _ _) ?_
  refine wp_ifn (by decide) ?_
  refine wp_ifn (by decide) ?_
  refine wp_ck (by decide) ?_
  refine wp_ifn (by decide) ?_
  refine wp_ifn (by decide) ?_
  refine wp_ck (by decide) ?_
  refine wp_ck (by decide) ?_
  refine wp_in3 ?_
  refine wp_of (uf_X1_run _ _ _ _ _ _ _ _ _ _) ?_
  refine wp_of (uf_X1_runo _ _ _ _ _ _ _ _ _ _) ?_
  refine wp_in2 ?_
  refine wp_of (uf_X1_note _ _ _ _) ?_
  refine wp_ifn (by decide) ?_
  refine wp_ck (i_inb (by decide) (by rw [show (((((0 : Int32) + (1 : Int32)) + (1 : Int32)) + (1 : Int32))).toInt = 3 from by decide]; (try simp only [is_len]); omega)) ?_
  refine wp_nm (fun y11 h11 => ?_)
  subst h11
  refine wp_of (uf_X1_note_19 _ _ _) ?_
  refine wp_nm (fun y12 h12 => ?_)
  subst h12
  refine wp_so2 ?_
  show wp _ _
  refine wp_ifp (by decide) ?_
  refine wp_so3 ?_
  show wp _ _
  refine wp_so3 ?_
  show wp _ _
  refine wp_so3 ?_
  show wp _ _
  refine wp_so3 ?_
  show wp _ _
  refine wp_so3 ?_
  show wp _ _
  refine wp_so3 ?_
  show wp _ _
  refine wp_so3 ?_
  show wp _ _
  exact wp_so3 ⟨rfl, rfl, rfl⟩

set_option maxRecDepth 20000 in
theorem ac8_6_2 (x b : Int32) (tr : List Int32) (hl : tr.length = 24) : wp (fX1_call 700 (fX1_run 700 42) (6 : Int32) (6 : Int32) (2 : Int32) x (0 : Int32) (0 : Int32) b tr) (cu3 (fun r0 r1 r2 => r0 = (x ^^^ b) ∧ r1 = ((0 : Int32) + (1 : Int32)) ∧ r2 = (mm_is tr (0 : Int32) (mm_ig mm_OWN (((4 : Int32) * (mm_ig mm_ABOVE (mm_ig mm_ABOVE (6 : Int32)))) + (2 : Int32)))))) := by
  refine wp_of (uf_X1_call _ _ _ _ _ _ _ _ _ _) ?_
  refine wp_of (uf_X1_call_6 _ _ _ _ _ _ _ _ _ _ _ _) ?_
  refine wp_ifn (by decide) ?_
  refine wp_ifn (by decide) ?_
  refine wp_ck (by decide) ?_
  refine wp_ifp (by decide) ?_
  refine wp_ck (by decide) ?_
  refine wp_nm (fun y1 h1 => ?_)
  subst h1
  refine wp_nm (fun y2 h2 => ?_)
  subst h2
  refine wp_of (uf_X1_call_6 _ _ _ _ _ _ _ _ _ _ _ _) ?_
  refine wp_ifn (by decide) ?_
  refine wp_ifn (by decide) ?_
  refine wp_ck (by decide) ?_
  refine wp_ifp (by decide) ?_
  refine wp_ck (by decide) ?_
  refine wp_nm (fun y3 h3 => ?_)
  subst h3
  refine wp_nm (fun y4 h4 => ?_)
  subst h4
  refine wp_of (uf_X1_call_6 _ _ _ _ _ _ _ _ _ _ _ _) ?_
  refine wp_ifn (by decide) ?_
  refine wp_ifn (by decide) ?_
  refine wp_ck (by decide) ?_
  refine wp_ifn (by decide) ?_
  refine wp_ifn (by decide) ?_
  refine wp_ck (by decide) ?_
  refine wp_ck (by decide) ?_
  refine wp_in3 ?_
  refine wp_of (uf_X1_run _ _ _ _ _ _ _ _ _ _) ?_
  refine wp_of (uf_X1_runo _ _ _ _ _ _ _ _ _ _) ?_
  refine wp_in2 ?_
  refine wp_of (uf_X1_note _ _ _ _) ?_
  refine wp_ifn (by decide) ?_
  refine wp_ck (i_inb (by decide) (by rw [show ((0 : Int32)).toInt = 0 from by decide]; (try simp only [is_len]); omega)) ?_
  refine wp_nm (fun y5 h5 => ?_)
  subst h5
  refine wp_of (uf_X1_note_19 _ _ _) ?_
  refine wp_nm (fun y6 h6 => ?_)
  subst h6
  refine wp_so2 ?_
  show wp _ _
  refine wp_ifn (by decide) ?_
  refine wp_ifn (by decide) ?_
  refine wp_ifn (by decide) ?_
  refine wp_ifp (by decide) ?_
  refine wp_so3 ?_
  show wp _ _
  exact wp_so3 ⟨rfl, rfl, rfl⟩

set_option maxRecDepth 20000 in
theorem ac8_6_3 (x b : Int32) (tr : List Int32) (hl : tr.length = 24) : wp (fX1_call 700 (fX1_run 700 42) (6 : Int32) (6 : Int32) (3 : Int32) x (0 : Int32) (0 : Int32) b tr) (cu3 (fun r0 r1 r2 => r0 = (((((x + b) + (3 : Int32)) * (2 : Int32)) * (2 : Int32)) - ((1 : Int32) ^^^ b)) ∧ r1 = (((((((0 : Int32) + (1 : Int32)) + (1 : Int32)) + (1 : Int32)) + (1 : Int32)) + (1 : Int32)) + (1 : Int32)) ∧ r2 = (mm_is (mm_is (mm_is (mm_is (mm_is (mm_is tr (0 : Int32) (mm_ig mm_OWN (((4 : Int32) * (mm_ig mm_ABOVE (mm_ig mm_ABOVE (6 : Int32)))) + (3 : Int32)))) ((0 : Int32) + (1 : Int32)) (mm_ig mm_OWN (((4 : Int32) * (mm_ig mm_ABOVE (mm_ig mm_ABOVE (6 : Int32)))) + (1 : Int32)))) (((0 : Int32) + (1 : Int32)) + (1 : Int32)) (mm_ig mm_OWN (((4 : Int32) * (6 : Int32)) + (0 : Int32)))) ((((0 : Int32) + (1 : Int32)) + (1 : Int32)) + (1 : Int32)) (mm_ig mm_OWN (((4 : Int32) * (mm_ig mm_ABOVE (6 : Int32))) + (0 : Int32)))) (((((0 : Int32) + (1 : Int32)) + (1 : Int32)) + (1 : Int32)) + (1 : Int32)) (mm_ig mm_OWN (((4 : Int32) * (mm_ig mm_ABOVE (mm_ig mm_ABOVE (6 : Int32)))) + (0 : Int32)))) ((((((0 : Int32) + (1 : Int32)) + (1 : Int32)) + (1 : Int32)) + (1 : Int32)) + (1 : Int32)) (mm_ig mm_OWN (((4 : Int32) * (mm_ig mm_ABOVE (mm_ig mm_ABOVE (6 : Int32)))) + (2 : Int32)))))) := by
  refine wp_of (uf_X1_call _ _ _ _ _ _ _ _ _ _) ?_
  refine wp_of (uf_X1_call_6 _ _ _ _ _ _ _ _ _ _ _ _) ?_
  refine wp_ifn (by decide) ?_
  refine wp_ifn (by decide) ?_
  refine wp_ck (by decide) ?_
  refine wp_ifp (by decide) ?_
  refine wp_ck (by decide) ?_
  refine wp_nm (fun y1 h1 => ?_)
  subst h1
  refine wp_nm (fun y2 h2 => ?_)
  subst h2
  refine wp_of (uf_X1_call_6 _ _ _ _ _ _ _ _ _ _ _ _) ?_
  refine wp_ifn (by decide) ?_
  refine wp_ifn (by decide) ?_
  refine wp_ck (by decide) ?_
  refine wp_ifp (by decide) ?_
  refine wp_ck (by decide) ?_
  refine wp_nm (fun y3 h3 => ?_)
  subst h3
  refine wp_nm (fun y4 h4 => ?_)
  subst h4
  refine wp_of (uf_X1_call_6 _ _ _ _ _ _ _ _ _ _ _ _) ?_
  refine wp_ifn (by decide) ?_
  refine wp_ifn (by decide) ?_
  refine wp_ck (by decide) ?_
  refine wp_ifn (by decide) ?_
  refine wp_ifn (by decide) ?_
  refine wp_ck (by decide) ?_
  refine wp_ck (by decide) ?_
  refine wp_in3 ?_
  refine wp_of (uf_X1_run _ _ _ _ _ _ _ _ _ _) ?_
  refine wp_of (uf_X1_runo _ _ _ _ _ _ _ _ _ _) ?_
  refine wp_in2 ?_
  refine wp_of (uf_X1_note _ _ _ _) ?_
  refine wp_ifn (by decide) ?_
  refine wp_ck (i_inb (by decide) (by rw [show ((0 : Int32)).toInt = 0 from by decide]; (try simp only [is_len]); omega)) ?_
  refine wp_nm (fun y5 h5 => ?_)
  subst h5
  refine wp_of (uf_X1_note_19 _ _ _) ?_
  refine wp_nm (fun y6 h6 => ?_)
  subst h6
  refine wp_so2 ?_
  show wp _ _
  refine wp_ifn (by decide) ?_
  refine wp_ifp (by decide) ?_
  refine wp_in3 ?_
  refine wp_of (uf_X1_call _ _ _ _ _ _ _ _ _ _) ?_
  refine wp_of (uf_X1_call_6 _ _ _ _ _ _ _ _ _ _ _ _) ?_
  refine wp_ifn (by decide) ?_
  refine wp_ifn (by decide) ?_
  refine wp_ck (by decide) ?_
  refine wp_ifp (by decide) ?_
  refine wp_ck (by decide) ?_
  refine wp_nm (fun y7 h7 => ?_)
  subst h7
  refine wp_nm (fun y8 h8 => ?_)
  subst h8
  refine wp_of (uf_X1_call_6 _ _ _ _ _ _ _ _ _ _ _ _) ?_
  refine wp_ifn (by decide) ?_
  refine wp_ifn (by decide) ?_
  refine wp_ck (by decide) ?_
  refine wp_ifp (by decide) ?_
  refine wp_ck (by decide) ?_
  refine wp_nm (fun y9 h9 => ?_)
  subst h9
  refine wp_nm (fun y10 h10 => ?_)
  subst h10
  refine wp_of (uf_X1_call_6 _ _ _ _ _ _ _ _ _ _ _ _) ?_
  refine wp_ifn (by decide) ?_
  refine wp_ifn (by decide) ?_
  refine wp_ck (by decide) ?_
  refine wp_ifn (by decide) ?_
  refine wp_ifn (by decide) ?_
  refine wp_ck (by decide) ?_
  refine wp_ck (by decide) ?_
  refine wp_in3 ?_
  refine wp_of (uf_X1_run _ _ _ _ _ _ _ _ _ _) ?_
  refine wp_of (uf_X1_runo _ _ _ _ _ _ _ _ _ _) ?_
  refine wp_in2 ?_
  refine wp_of (uf_X1_note _ _ _ _) ?_
  refine wp_ifn (by decide) ?_
  refine wp_ck (i_inb (by decide) (by rw [show (((0 : Int32) + (1 : Int32))).toInt = 1 from by decide]; (try simp only [is_len]); omega)) ?_
  refine wp_nm (fun y11 h11 => ?_)
  subst h11
  refine wp_of (uf_X1_note_19 _ _ _) ?_
  refine wp_nm (fun y12 h12 => ?_)
  subst h12
  refine wp_so2 ?_
  show wp _ _
  refine wp_ifn (by decide) ?_
  refine wp_ifn (by decide) ?_
  refine wp_ifp (by decide) ?_
  refine wp_in3 ?_
  refine wp_of (uf_X1_call _ _ _ _ _ _ _ _ _ _) ?_
  refine wp_of (uf_X1_call_6 _ _ _ _ _ _ _ _ _ _ _ _) ?_
  refine wp_ifn (by decide) ?_
  refine wp_ifn (by decide) ?_
  refine wp_ck (by decide) ?_
  refine wp_ifn (by decide) ?_
  refine wp_ifn (by decide) ?_
  refine wp_ck (by decide) ?_
  refine wp_ck (by decide) ?_
  refine wp_in3 ?_
  refine wp_of (uf_X1_run _ _ _ _ _ _ _ _ _ _) ?_
  refine wp_of (uf_X1_runo _ _ _ _ _ _ _ _ _ _) ?_
  refine wp_in2 ?_
  refine wp_of (uf_X1_note _ _ _ _) ?_
  refine wp_ifn (by decide) ?_
  refine wp_ck (i_inb (by decide) (by rw [show ((((0 : Int32) + (1 : Int32)) + (1 : Int32))).toInt = 2 from by decide]; (try simp only [is_len]); omega)) ?_
  refine wp_nm (fun y13 h13 => ?_)
  subst h13
  refine wp_of (uf_X1_note_19 _ _ _) ?_
  refine wp_nm (fun y14 h14 => ?_)
  subst h14
  refine wp_so2 ?_
  show wp _ _
  refine wp_ifn (by decide) ?_
  refine wp_ifn (by decide) ?_
  refine wp_ifn (by decide) ?_
  refine wp_ifn (by decide) ?_
  refine wp_ifn (by decide) ?_
  refine wp_ifn (by decide) ?_
  refine wp_ifn (by decide) ?_
  refine wp_ifn (by decide) ?_
  refine wp_ifn (by decide) ?_
  refine wp_ifn (by decide) ?_
  refine wp_ifp (by decide) ?_
  refine wp_in3 ?_
  refine wp_of (uf_X1_call _ _ _ _ _ _ _ _ _ _) ?_
  refine wp_of (uf_X1_call_6 _ _ _ _ _ _ _ _ _ _ _ _) ?_
  refine wp_ifn (by decide) ?_
  refine wp_ifn (by decide) ?_
  refine wp_ck (by decide) ?_
  refine wp_ifn (by decide) ?_
  refine wp_ifn (by decide) ?_
  refine wp_ck (by decide) ?_
  refine wp_ck (by decide) ?_
  refine wp_in3 ?_
  refine wp_of (uf_X1_run _ _ _ _ _ _ _ _ _ _) ?_
  refine wp_of (uf_X1_runo _ _ _ _ _ _ _ _ _ _) ?_
  refine wp_in2 ?_
  refine wp_of (uf_X1_note _ _ _ _) ?_
  refine wp_ifn (by decide) ?_
  refine wp_ck (i_inb (by decide) (by rw [show (((((0 : Int32) + (1 : Int32)) + (1 : Int32)) + (1 : Int32))).toInt = 3 from by decide]; (try simp only [is_len]); omega)) ?_
  refine wp_nm (fun y15 h15 => ?_)
  subst h15
  refine wp_of (uf_X1_note_19 _ _ _) ?_
  refine wp_nm (fun y16 h16 => ?_)
  subst h16
  refine wp_so2 ?_
  show wp _ _
  refine wp_ifn (by decide) ?_
  refine wp_ifn (by decide) ?_
  refine wp_ifn (by decide) ?_
  refine wp_ifn (by decide) ?_
  refine wp_ifp (by decide) ?_
  refine wp_in3 ?_
  refine wp_of (uf_X1_call _ _ _ _ _ _ _ _ _ _) ?_
  refine wp_of (uf_X1_call_6 _ _ _ _ _ _ _ _ _ _ _ _) ?_
  refine wp_ifn (by decide) ?_
  refine wp_ifn (by decide) ?_
  refine wp_ck (by decide) ?_
  refine wp_ifn (by decide) ?_
  refine wp_ifn (by decide) ?_
  refine wp_ck (by decide) ?_
  refine wp_ck (by decide) ?_
  refine wp_in3 ?_
  refine wp_of (uf_X1_run _ _ _ _ _ _ _ _ _ _) ?_
  refine wp_of (uf_X1_runo _ _ _ _ _ _ _ _ _ _) ?_
  refine wp_in2 ?_
  refine wp_of (uf_X1_note _ _ _ _) ?_
  refine wp_ifn (by decide) ?_
  refine wp_ck (i_inb (by decide) (by rw [show ((((((0 : Int32) + (1 : Int32)) + (1 : Int32)) + (1 : Int32)) + (1 : Int32))).toInt = 4 from by decide]; (try simp only [is_len]); omega)) ?_
  refine wp_nm (fun y17 h17 => ?_)
  subst h17
  refine wp_of (uf_X1_note_19 _ _ _) ?_
  refine wp_nm (fun y18 h18 => ?_)
  subst h18
  refine wp_so2 ?_
  show wp _ _
  refine wp_ifp (by decide) ?_
  refine wp_so3 ?_
  show wp _ _
  refine wp_so3 ?_
  show wp _ _
  refine wp_so3 ?_
  show wp _ _
  refine wp_so3 ?_
  show wp _ _
  refine wp_so3 ?_
  show wp _ _
  refine wp_so3 ?_
  show wp _ _
  refine wp_so3 ?_
  show wp _ _
  refine wp_so3 ?_
  show wp _ _
  refine wp_in3 ?_
  refine wp_of (uf_X1_call _ _ _ _ _ _ _ _ _ _) ?_
  refine wp_of (uf_X1_call_6 _ _ _ _ _ _ _ _ _ _ _ _) ?_
  refine wp_ifn (by decide) ?_
  refine wp_ifn (by decide) ?_
  refine wp_ck (by decide) ?_
  refine wp_ifp (by decide) ?_
  refine wp_ck (by decide) ?_
  refine wp_nm (fun y19 h19 => ?_)
  subst h19
  refine wp_nm (fun y20 h20 => ?_)
  subst h20
  refine wp_of (uf_X1_call_6 _ _ _ _ _ _ _ _ _ _ _ _) ?_
  refine wp_ifn (by decide) ?_
  refine wp_ifn (by decide) ?_
  refine wp_ck (by decide) ?_
  refine wp_ifp (by decide) ?_
  refine wp_ck (by decide) ?_
  refine wp_nm (fun y21 h21 => ?_)
  subst h21
  refine wp_nm (fun y22 h22 => ?_)
  subst h22
  refine wp_of (uf_X1_call_6 _ _ _ _ _ _ _ _ _ _ _ _) ?_
  refine wp_ifn (by decide) ?_
  refine wp_ifn (by decide) ?_
  refine wp_ck (by decide) ?_
  refine wp_ifn (by decide) ?_
  refine wp_ifn (by decide) ?_
  refine wp_ck (by decide) ?_
  refine wp_ck (by decide) ?_
  refine wp_in3 ?_
  refine wp_of (uf_X1_run _ _ _ _ _ _ _ _ _ _) ?_
  refine wp_of (uf_X1_runo _ _ _ _ _ _ _ _ _ _) ?_
  refine wp_in2 ?_
  refine wp_of (uf_X1_note _ _ _ _) ?_
  refine wp_ifn (by decide) ?_
  refine wp_ck (i_inb (by decide) (by rw [show (((((((0 : Int32) + (1 : Int32)) + (1 : Int32)) + (1 : Int32)) + (1 : Int32)) + (1 : Int32))).toInt = 5 from by decide]; (try simp only [is_len]); omega)) ?_
  refine wp_nm (fun y23 h23 => ?_)
  subst h23
  refine wp_of (uf_X1_note_19 _ _ _) ?_
  refine wp_nm (fun y24 h24 => ?_)
  subst h24
  refine wp_so2 ?_
  show wp _ _
  refine wp_ifn (by decide) ?_
  refine wp_ifn (by decide) ?_
  refine wp_ifn (by decide) ?_
  refine wp_ifp (by decide) ?_
  refine wp_so3 ?_
  show wp _ _
  refine wp_so3 ?_
  show wp _ _
  refine wp_so3 ?_
  show wp _ _
  exact wp_so3 ⟨rfl, rfl, rfl⟩

set_option maxRecDepth 20000 in
theorem ac8_7_0 (x b : Int32) (tr : List Int32) (hl : tr.length = 24) : wp (fX1_call 700 (fX1_run 700 42) (7 : Int32) (7 : Int32) (0 : Int32) x (0 : Int32) (0 : Int32) b tr) (cu3 (fun r0 r1 r2 => r0 = (x + b) ∧ r1 = ((0 : Int32) + (1 : Int32)) ∧ r2 = (mm_is tr (0 : Int32) (mm_ig mm_OWN (((4 : Int32) * (mm_ig mm_ABOVE (mm_ig mm_ABOVE (7 : Int32)))) + (0 : Int32)))))) := by
  refine wp_of (uf_X1_call _ _ _ _ _ _ _ _ _ _) ?_
  refine wp_of (uf_X1_call_6 _ _ _ _ _ _ _ _ _ _ _ _) ?_
  refine wp_ifn (by decide) ?_
  refine wp_ifn (by decide) ?_
  refine wp_ck (by decide) ?_
  refine wp_ifp (by decide) ?_
  refine wp_ck (by decide) ?_
  refine wp_nm (fun y1 h1 => ?_)
  subst h1
  refine wp_nm (fun y2 h2 => ?_)
  subst h2
  refine wp_of (uf_X1_call_6 _ _ _ _ _ _ _ _ _ _ _ _) ?_
  refine wp_ifn (by decide) ?_
  refine wp_ifn (by decide) ?_
  refine wp_ck (by decide) ?_
  refine wp_ifp (by decide) ?_
  refine wp_ck (by decide) ?_
  refine wp_nm (fun y3 h3 => ?_)
  subst h3
  refine wp_nm (fun y4 h4 => ?_)
  subst h4
  refine wp_of (uf_X1_call_6 _ _ _ _ _ _ _ _ _ _ _ _) ?_
  refine wp_ifn (by decide) ?_
  refine wp_ifn (by decide) ?_
  refine wp_ck (by decide) ?_
  refine wp_ifn (by decide) ?_
  refine wp_ifn (by decide) ?_
  refine wp_ck (by decide) ?_
  refine wp_ck (by decide) ?_
  refine wp_in3 ?_
  refine wp_of (uf_X1_run _ _ _ _ _ _ _ _ _ _) ?_
  refine wp_of (uf_X1_runo _ _ _ _ _ _ _ _ _ _) ?_
  refine wp_in2 ?_
  refine wp_of (uf_X1_note _ _ _ _) ?_
  refine wp_ifn (by decide) ?_
  refine wp_ck (i_inb (by decide) (by rw [show ((0 : Int32)).toInt = 0 from by decide]; (try simp only [is_len]); omega)) ?_
  refine wp_nm (fun y5 h5 => ?_)
  subst h5
  refine wp_of (uf_X1_note_19 _ _ _) ?_
  refine wp_nm (fun y6 h6 => ?_)
  subst h6
  refine wp_so2 ?_
  show wp _ _
  refine wp_ifp (by decide) ?_
  refine wp_so3 ?_
  show wp _ _
  exact wp_so3 ⟨rfl, rfl, rfl⟩

set_option maxRecDepth 20000 in
theorem ac8_7_1 (x b : Int32) (tr : List Int32) (hl : tr.length = 24) : wp (fX1_call 700 (fX1_run 700 42) (7 : Int32) (7 : Int32) (1 : Int32) x (0 : Int32) (0 : Int32) b tr) (cu3 (fun r0 r1 r2 => r0 = (((x + b) * (2 : Int32)) + (((2 : Int32) ^^^ b) - ((2 : Int32) + b))) ∧ r1 = (((((((0 : Int32) + (1 : Int32)) + (1 : Int32)) + (1 : Int32)) + (1 : Int32)) + (1 : Int32)) + (1 : Int32)) ∧ r2 = (mm_is (mm_is (mm_is (mm_is (mm_is (mm_is tr (0 : Int32) (mm_ig mm_OWN (((4 : Int32) * (7 : Int32)) + (1 : Int32)))) ((0 : Int32) + (1 : Int32)) (mm_ig mm_OWN (((4 : Int32) * (mm_ig mm_ABOVE (mm_ig mm_ABOVE (7 : Int32)))) + (1 : Int32)))) (((0 : Int32) + (1 : Int32)) + (1 : Int32)) (mm_ig mm_OWN (((4 : Int32) * (mm_ig mm_ABOVE (mm_ig mm_ABOVE (7 : Int32)))) + (0 : Int32)))) ((((0 : Int32) + (1 : Int32)) + (1 : Int32)) + (1 : Int32)) (mm_ig mm_OWN (((4 : Int32) * (mm_ig mm_ABOVE (7 : Int32))) + (2 : Int32)))) (((((0 : Int32) + (1 : Int32)) + (1 : Int32)) + (1 : Int32)) + (1 : Int32)) (mm_ig mm_OWN (((4 : Int32) * (mm_ig mm_ABOVE (mm_ig mm_ABOVE (7 : Int32)))) + (2 : Int32)))) ((((((0 : Int32) + (1 : Int32)) + (1 : Int32)) + (1 : Int32)) + (1 : Int32)) + (1 : Int32)) (mm_ig mm_OWN (((4 : Int32) * (mm_ig mm_ABOVE (mm_ig mm_ABOVE (7 : Int32)))) + (0 : Int32)))))) := by
  refine wp_of (uf_X1_call _ _ _ _ _ _ _ _ _ _) ?_
  refine wp_of (uf_X1_call_6 _ _ _ _ _ _ _ _ _ _ _ _) ?_
  refine wp_ifn (by decide) ?_
  refine wp_ifn (by decide) ?_
  refine wp_ck (by decide) ?_
  refine wp_ifn (by decide) ?_
  refine wp_ifn (by decide) ?_
  refine wp_ck (by decide) ?_
  refine wp_ck (by decide) ?_
  refine wp_in3 ?_
  refine wp_of (uf_X1_run _ _ _ _ _ _ _ _ _ _) ?_
  refine wp_of (uf_X1_runo _ _ _ _ _ _ _ _ _ _) ?_
  refine wp_in2 ?_
  refine wp_of (uf_X1_note _ _ _ _) ?_
  refine wp_ifn (by decide) ?_
  refine wp_ck (i_inb (by decide) (by rw [show ((0 : Int32)).toInt = 0 from by decide]; (try simp only [is_len]); omega)) ?_
  refine wp_nm (fun y1 h1 => ?_)
  subst h1
  refine wp_of (uf_X1_note_19 _ _ _) ?_
  refine wp_nm (fun y2 h2 => ?_)
  subst h2
  refine wp_so2 ?_
  show wp _ _
  refine wp_ifn (by decide) ?_
  refine wp_ifn (by decide) ?_
  refine wp_ifn (by decide) ?_
  refine wp_ifn (by decide) ?_
  refine wp_ifn (by decide) ?_
  refine wp_ifn (by decide) ?_
  refine wp_ifn (by decide) ?_
  refine wp_ifn (by decide) ?_
  refine wp_ifn (by decide) ?_
  refine wp_ifn (by decide) ?_
  refine wp_ifn (by decide) ?_
  refine wp_ifp (by decide) ?_
  refine wp_in3 ?_
  refine wp_of (uf_X1_call _ _ _ _ _ _ _ _ _ _) ?_
  refine wp_of (uf_X1_call_6 _ _ _ _ _ _ _ _ _ _ _ _) ?_
  refine wp_ifn (by decide) ?_
  refine wp_ifn (by decide) ?_
  refine wp_ck (by decide) ?_
  refine wp_ifp (by decide) ?_
  refine wp_ck (by decide) ?_
  refine wp_nm (fun y3 h3 => ?_)
  subst h3
  refine wp_nm (fun y4 h4 => ?_)
  subst h4
  refine wp_of (uf_X1_call_6 _ _ _ _ _ _ _ _ _ _ _ _) ?_
  refine wp_ifn (by decide) ?_
  refine wp_ifn (by decide) ?_
  refine wp_ck (by decide) ?_
  refine wp_ifn (by decide) ?_
  refine wp_ifn (by decide) ?_
  refine wp_ck (by decide) ?_
  refine wp_ck (by decide) ?_
  refine wp_in3 ?_
  refine wp_of (uf_X1_run _ _ _ _ _ _ _ _ _ _) ?_
  refine wp_of (uf_X1_runo _ _ _ _ _ _ _ _ _ _) ?_
  refine wp_in2 ?_
  refine wp_of (uf_X1_note _ _ _ _) ?_
  refine wp_ifn (by decide) ?_
  refine wp_ck (i_inb (by decide) (by rw [show (((0 : Int32) + (1 : Int32))).toInt = 1 from by decide]; (try simp only [is_len]); omega)) ?_
  refine wp_nm (fun y5 h5 => ?_)
  subst h5
  refine wp_of (uf_X1_note_19 _ _ _) ?_
  refine wp_nm (fun y6 h6 => ?_)
  subst h6
  refine wp_so2 ?_
  show wp _ _
  refine wp_ifn (by decide) ?_
  refine wp_ifn (by decide) ?_
  refine wp_ifp (by decide) ?_
  refine wp_in3 ?_
  refine wp_of (uf_X1_call _ _ _ _ _ _ _ _ _ _) ?_
  refine wp_of (uf_X1_call_6 _ _ _ _ _ _ _ _ _ _ _ _) ?_
  refine wp_ifn (by decide) ?_
  refine wp_ifn (by decide) ?_
  refine wp_ck (by decide) ?_
  refine wp_ifp (by decide) ?_
  refine wp_ck (by decide) ?_
  refine wp_nm (fun y7 h7 => ?_)
  subst h7
  refine wp_nm (fun y8 h8 => ?_)
  subst h8
  refine wp_of (uf_X1_call_6 _ _ _ _ _ _ _ _ _ _ _ _) ?_
  refine wp_ifn (by decide) ?_
  refine wp_ifn (by decide) ?_
  refine wp_ck (by decide) ?_
  refine wp_ifp (by decide) ?_
  refine wp_ck (by decide) ?_
  refine wp_nm (fun y9 h9 => ?_)
  subst h9
  refine wp_nm (fun y10 h10 => ?_)
  subst h10
  refine wp_of (uf_X1_call_6 _ _ _ _ _ _ _ _ _ _ _ _) ?_
  refine wp_ifn (by decide) ?_
  refine wp_ifn (by decide) ?_
  refine wp_ck (by decide) ?_
  refine wp_ifn (by decide) ?_
  refine wp_ifn (by decide) ?_
  refine wp_ck (by decide) ?_
  refine wp_ck (by decide) ?_
  refine wp_in3 ?_
  refine wp_of (uf_X1_run _ _ _ _ _ _ _ _ _ _) ?_
  refine wp_of (uf_X1_runo _ _ _ _ _ _ _ _ _ _) ?_
  refine wp_in2 ?_
  refine wp_of (uf_X1_note _ _ _ _) ?_
  refine wp_ifn (by decide) ?_
  refine wp_ck (i_inb (by decide) (by rw [show ((((0 : Int32) + (1 : Int32)) + (1 : Int32))).toInt = 2 from by decide]; (try simp only [is_len]); omega)) ?_
  refine wp_nm (fun y11 h11 => ?_)
  subst h11
  refine wp_of (uf_X1_note_19 _ _ _) ?_
  refine wp_nm (fun y12 h12 => ?_)
  subst h12
  refine wp_so2 ?_
  show wp _ _
  refine wp_ifp (by decide) ?_
  refine wp_so3 ?_
  show wp _ _
  refine wp_so3 ?_
  show wp _ _
  refine wp_so3 ?_
  show wp _ _
  refine wp_so3 ?_
  show wp _ _
  refine wp_in3 ?_
  refine wp_of (uf_X1_call _ _ _ _ _ _ _ _ _ _) ?_
  refine wp_of (uf_X1_call_6 _ _ _ _ _ _ _ _ _ _ _ _) ?_
  refine wp_ifn (by decide) ?_
  refine wp_ifn (by decide) ?_
  refine wp_ck (by decide) ?_
  refine wp_ifp (by decide) ?_
  refine wp_ck (by decide) ?_
  refine wp_nm (fun y13 h13 => ?_)
  subst h13
  refine wp_nm (fun y14 h14 => ?_)
  subst h14
  refine wp_of (uf_X1_call_6 _ _ _ _ _ _ _ _ _ _ _ _) ?_
  refine wp_ifn (by decide) ?_
  refine wp_ifn (by decide) ?_
  refine wp_ck (by decide) ?_
  refine wp_ifn (by decide) ?_
  refine wp_ifn (by decide) ?_
  refine wp_ck (by decide) ?_
  refine wp_ck (by decide) ?_
  refine wp_in3 ?_
  refine wp_of (uf_X1_run _ _ _ _ _ _ _ _ _ _) ?_
  refine wp_of (uf_X1_runo _ _ _ _ _ _ _ _ _ _) ?_
  refine wp_in2 ?_
  refine wp_of (uf_X1_note _ _ _ _) ?_
  refine wp_ifn (by decide) ?_
  refine wp_ck (i_inb (by decide) (by rw [show (((((0 : Int32) + (1 : Int32)) + (1 : Int32)) + (1 : Int32))).toInt = 3 from by decide]; (try simp only [is_len]); omega)) ?_
  refine wp_nm (fun y15 h15 => ?_)
  subst h15
  refine wp_of (uf_X1_note_19 _ _ _) ?_
  refine wp_nm (fun y16 h16 => ?_)
  subst h16
  refine wp_so2 ?_
  show wp _ _
  refine wp_ifn (by decide) ?_
  refine wp_ifn (by decide) ?_
  refine wp_ifn (by decide) ?_
  refine wp_ifn (by decide) ?_
  refine wp_ifn (by decide) ?_
  refine wp_ifn (by decide) ?_
  refine wp_ifn (by decide) ?_
  refine wp_ifn (by decide) ?_
  refine wp_ifp (by decide) ?_
  refine wp_in3 ?_
  refine wp_of (uf_X1_call _ _ _ _ _ _ _ _ _ _) ?_
  refine wp_of (uf_X1_call_6 _ _ _ _ _ _ _ _ _ _ _ _) ?_
  refine wp_ifn (by decide) ?_
  refine wp_ifn (by decide) ?_
  refine wp_ck (by decide) ?_
  refine wp_ifn (by decide) ?_
  refine wp_ifn (by decide) ?_
  refine wp_ck (by decide) ?_
  refine wp_ck (by decide) ?_
  refine wp_in3 ?_
  refine wp_of (uf_X1_run _ _ _ _ _ _ _ _ _ _) ?_
  refine wp_of (uf_X1_runo _ _ _ _ _ _ _ _ _ _) ?_
  refine wp_in2 ?_
  refine wp_of (uf_X1_note _ _ _ _) ?_
  refine wp_ifn (by decide) ?_
  refine wp_ck (i_inb (by decide) (by rw [show ((((((0 : Int32) + (1 : Int32)) + (1 : Int32)) + (1 : Int32)) + (1 : Int32))).toInt = 4 from by decide]; (try simp only [is_len]); omega)) ?_
  refine wp_nm (fun y17 h17 => ?_)
  subst h17
  refine wp_of (uf_X1_note_19 _ _ _) ?_
  refine wp_nm (fun y18 h18 => ?_)
  subst h18
  refine wp_so2 ?_
  show wp _ _
  refine wp_ifn (by decide) ?_
  refine wp_ifn (by decide) ?_
  refine wp_ifn (by decide) ?_
  refine wp_ifp (by decide) ?_
  refine wp_so3 ?_
  show wp _ _
  refine wp_so3 ?_
  show wp _ _
  refine wp_in3 ?_
  refine wp_of (uf_X1_call _ _ _ _ _ _ _ _ _ _) ?_
  refine wp_of (uf_X1_call_6 _ _ _ _ _ _ _ _ _ _ _ _) ?_
  refine wp_ifn (by decide) ?_
  refine wp_ifn (by decide) ?_
  refine wp_ck (by decide) ?_
  refine wp_ifp (by decide) ?_
  refine wp_ck (by decide) ?_
  refine wp_nm (fun y19 h19 => ?_)
  subst h19
  refine wp_nm (fun y20 h20 => ?_)
  subst h20
  refine wp_of (uf_X1_call_6 _ _ _ _ _ _ _ _ _ _ _ _) ?_
  refine wp_ifn (by decide) ?_
  refine wp_ifn (by decide) ?_
  refine wp_ck (by decide) ?_
  refine wp_ifp (by decide) ?_
  refine wp_ck (by decide) ?_
  refine wp_nm (fun y21 h21 => ?_)
  subst h21
  refine wp_nm (fun y22 h22 => ?_)
  subst h22
  refine wp_of (uf_X1_call_6 _ _ _ _ _ _ _ _ _ _ _ _) ?_
  refine wp_ifn (by decide) ?_
  refine wp_ifn (by decide) ?_
  refine wp_ck (by decide) ?_
  refine wp_ifn (by decide) ?_
  refine wp_ifn (by decide) ?_
  refine wp_ck (by decide) ?_
  refine wp_ck (by decide) ?_
  refine wp_in3 ?_
  refine wp_of (uf_X1_run _ _ _ _ _ _ _ _ _ _) ?_
  refine wp_of (uf_X1_runo _ _ _ _ _ _ _ _ _ _) ?_
  refine wp_in2 ?_
  refine wp_of (uf_X1_note _ _ _ _) ?_
  refine wp_ifn (by decide) ?_
  refine wp_ck (i_inb (by decide) (by rw [show (((((((0 : Int32) + (1 : Int32)) + (1 : Int32)) + (1 : Int32)) + (1 : Int32)) + (1 : Int32))).toInt = 5 from by decide]; (try simp only [is_len]); omega)) ?_
  refine wp_nm (fun y23 h23 => ?_)
  subst h23
  refine wp_of (uf_X1_note_19 _ _ _) ?_
  refine wp_nm (fun y24 h24 => ?_)
  subst h24
  refine wp_so2 ?_
  show wp _ _
  refine wp_ifp (by decide) ?_
  refine wp_so3 ?_
  show wp _ _
  refine wp_so3 ?_
  show wp _ _
  refine wp_so3 ?_
  show wp _ _
  refine wp_so3 ?_
  show wp _ _
  refine wp_so3 ?_
  show wp _ _
  exact wp_so3 ⟨rfl, rfl, rfl⟩

set_option maxRecDepth 20000 in
theorem ac8_7_2 (x b : Int32) (tr : List Int32) (hl : tr.length = 24) : wp (fX1_call 700 (fX1_run 700 42) (7 : Int32) (7 : Int32) (2 : Int32) x (0 : Int32) (0 : Int32) b tr) (cu3 (fun r0 r1 r2 => r0 = ((x ^^^ b) - ((2 : Int32) + b)) ∧ r1 = ((((0 : Int32) + (1 : Int32)) + (1 : Int32)) + (1 : Int32)) ∧ r2 = (mm_is (mm_is (mm_is tr (0 : Int32) (mm_ig mm_OWN (((4 : Int32) * (mm_ig mm_ABOVE (7 : Int32))) + (2 : Int32)))) ((0 : Int32) + (1 : Int32)) (mm_ig mm_OWN (((4 : Int32) * (mm_ig mm_ABOVE (mm_ig mm_ABOVE (7 : Int32)))) + (2 : Int32)))) (((0 : Int32) + (1 : Int32)) + (1 : Int32)) (mm_ig mm_OWN (((4 : Int32) * (mm_ig mm_ABOVE (mm_ig mm_ABOVE (7 : Int32)))) + (0 : Int32)))))) := by
  refine wp_of (uf_X1_call _ _ _ _ _ _ _ _ _ _) ?_
  refine wp_of (uf_X1_call_6 _ _ _ _ _ _ _ _ _ _ _ _) ?_
  refine wp_ifn (by decide) ?_
  refine wp_ifn (by decide) ?_
  refine wp_ck (by decide) ?_
  refine wp_ifp (by decide) ?_
  refine wp_ck (by decide) ?_
  refine wp_nm (fun y1 h1 => ?_)
  subst h1
  refine wp_nm (fun y2 h2 => ?_)
  subst h2
  refine wp_of (uf_X1_call_6 _ _ _ _ _ _ _ _ _ _ _ _) ?_
  refine wp_ifn (by decide) ?_
  refine wp_ifn (by decide) ?_
  refine wp_ck (by decide) ?_
  refine wp_ifn (by decide) ?_
  refine wp_ifn (by decide) ?_
  refine wp_ck (by decide) ?_
  refine wp_ck (by decide) ?_
  refine wp_in3 ?_
  refine wp_of (uf_X1_run _ _ _ _ _ _ _ _ _ _) ?_
  refine wp_of (uf_X1_runo _ _ _ _ _ _ _ _ _ _) ?_
  refine wp_in2 ?_
  refine wp_of (uf_X1_note _ _ _ _) ?_
  refine wp_ifn (by decide) ?_
  refine wp_ck (i_inb (by decide) (by rw [show ((0 : Int32)).toInt = 0 from by decide]; (try simp only [is_len]); omega)) ?_
  refine wp_nm (fun y3 h3 => ?_)
  subst h3
  refine wp_of (uf_X1_note_19 _ _ _) ?_
  refine wp_nm (fun y4 h4 => ?_)
  subst h4
  refine wp_so2 ?_
  show wp _ _
  refine wp_ifn (by decide) ?_
  refine wp_ifn (by decide) ?_
  refine wp_ifn (by decide) ?_
  refine wp_ifn (by decide) ?_
  refine wp_ifn (by decide) ?_
  refine wp_ifn (by decide) ?_
  refine wp_ifn (by decide) ?_
  refine wp_ifn (by decide) ?_
  refine wp_ifp (by decide) ?_
  refine wp_in3 ?_
  refine wp_of (uf_X1_call _ _ _ _ _ _ _ _ _ _) ?_
  refine wp_of (uf_X1_call_6 _ _ _ _ _ _ _ _ _ _ _ _) ?_
  refine wp_ifn (by decide) ?_
  refine wp_ifn (by decide) ?_
  refine wp_ck (by decide) ?_
  refine wp_ifn (by decide) ?_
  refine wp_ifn (by decide) ?_
  refine wp_ck (by decide) ?_
  refine wp_ck (by decide) ?_
  refine wp_in3 ?_
  refine wp_of (uf_X1_run _ _ _ _ _ _ _ _ _ _) ?_
  refine wp_of (uf_X1_runo _ _ _ _ _ _ _ _ _ _) ?_
  refine wp_in2 ?_
  refine wp_of (uf_X1_note _ _ _ _) ?_
  refine wp_ifn (by decide) ?_
  refine wp_ck (i_inb (by decide) (by rw [show (((0 : Int32) + (1 : Int32))).toInt = 1 from by decide]; (try simp only [is_len]); omega)) ?_
  refine wp_nm (fun y5 h5 => ?_)
  subst h5
  refine wp_of (uf_X1_note_19 _ _ _) ?_
  refine wp_nm (fun y6 h6 => ?_)
  subst h6
  refine wp_so2 ?_
  show wp _ _
  refine wp_ifn (by decide) ?_
  refine wp_ifn (by decide) ?_
  refine wp_ifn (by decide) ?_
  refine wp_ifp (by decide) ?_
  refine wp_so3 ?_
  show wp _ _
  refine wp_so3 ?_
  show wp _ _
  refine wp_in3 ?_
  refine wp_of (uf_X1_call _ _ _ _ _ _ _ _ _ _) ?_
  refine wp_of (uf_X1_call_6 _ _ _ _ _ _ _ _ _ _ _ _) ?_
  refine wp_ifn (by decide) ?_
  refine wp_ifn (by decide) ?_
  refine wp_ck (by decide) ?_
  refine wp_ifp (by decide) ?_
  refine wp_ck (by decide) ?_
  refine wp_nm (fun y7 h7 => ?_)
  subst h7
  refine wp_nm (fun y8 h8 => ?_)
  subst h8
  refine wp_of (uf_X1_call_6 _ _ _ _ _ _ _ _ _ _ _ _) ?_
  refine wp_ifn (by decide) ?_
  refine wp_ifn (by decide) ?_
  refine wp_ck (by decide) ?_
  refine wp_ifp (by decide) ?_
  refine wp_ck (by decide) ?_
  refine wp_nm (fun y9 h9 => ?_)
  subst h9
  refine wp_nm (fun y10 h10 => ?_)
  subst h10
  refine wp_of (uf_X1_call_6 _ _ _ _ _ _ _ _ _ _ _ _) ?_
  refine wp_ifn (by decide) ?_
  refine wp_ifn (by decide) ?_
  refine wp_ck (by decide) ?_
  refine wp_ifn (by decide) ?_
  refine wp_ifn (by decide) ?_
  refine wp_ck (by decide) ?_
  refine wp_ck (by decide) ?_
  refine wp_in3 ?_
  refine wp_of (uf_X1_run _ _ _ _ _ _ _ _ _ _) ?_
  refine wp_of (uf_X1_runo _ _ _ _ _ _ _ _ _ _) ?_
  refine wp_in2 ?_
  refine wp_of (uf_X1_note _ _ _ _) ?_
  refine wp_ifn (by decide) ?_
  refine wp_ck (i_inb (by decide) (by rw [show ((((0 : Int32) + (1 : Int32)) + (1 : Int32))).toInt = 2 from by decide]; (try simp only [is_len]); omega)) ?_
  refine wp_nm (fun y11 h11 => ?_)
  subst h11
  refine wp_of (uf_X1_note_19 _ _ _) ?_
  refine wp_nm (fun y12 h12 => ?_)
  subst h12
  refine wp_so2 ?_
  show wp _ _
  refine wp_ifp (by decide) ?_
  refine wp_so3 ?_
  show wp _ _
  refine wp_so3 ?_
  show wp _ _
  refine wp_so3 ?_
  show wp _ _
  exact wp_so3 ⟨rfl, rfl, rfl⟩

set_option maxRecDepth 20000 in
theorem ac8_7_3 (x b : Int32) (tr : List Int32) (hl : tr.length = 24) : wp (fX1_call 700 (fX1_run 700 42) (7 : Int32) (7 : Int32) (3 : Int32) x (0 : Int32) (0 : Int32) b tr) (cu3 (fun r0 r1 r2 => r0 = (((((x + b) * (2 : Int32)) + (((2 : Int32) ^^^ b) - ((2 : Int32) + b))) - (((1 : Int32) ^^^ b) - ((2 : Int32) + b))) - (1 : Int32)) ∧ r1 = ((((((((((((0 : Int32) + (1 : Int32)) + (1 : Int32)) + (1 : Int32)) + (1 : Int32)) + (1 : Int32)) + (1 : Int32)) + (1 : Int32)) + (1 : Int32)) + (1 : Int32)) + (1 : Int32)) + (1 : Int32)) ∧ r2 = (mm_is (mm_is (mm_is (mm_is (mm_is (mm_is (mm_is (mm_is (mm_is (mm_is (mm_is tr (0 : Int32) (mm_ig mm_OWN (((4 : Int32) * (7 : Int32)) + (3 : Int32)))) ((0 : Int32) + (1 : Int32)) (mm_ig mm_OWN (((4 : Int32) * (mm_ig mm_ABOVE (mm_ig mm_ABOVE (7 : Int32)))) + (3 : Int32)))) (((0 : Int32) + (1 : Int32)) + (1 : Int32)) (mm_ig mm_OWN (((4 : Int32) * (7 : Int32)) + (1 : Int32)))) ((((0 : Int32) + (1 : Int32)) + (1 : Int32)) + (1 : Int32)) (mm_ig mm_OWN (((4 : Int32) * (mm_ig mm_ABOVE (mm_ig mm_ABOVE (7 : Int32)))) + (1 : Int32)))) (((((0 : Int32) + (1 : Int32)) + (1 : Int32)) + (1 : Int32)) + (1 : Int32)) (mm_ig mm_OWN (((4 : Int32) * (mm_ig mm_ABOVE (mm_ig mm_ABOVE (7 : Int32)))) + (0 : Int32)))) ((((((0 : Int32) + (1 : Int32)) + (1 : Int32)) + (1 : Int32)) + (1 : Int32)) + (1 : Int32)) (mm_ig mm_OWN (((4 : Int32) * (mm_ig mm_ABOVE (7 : Int32))) + (2 : Int32)))) (((((((0 : Int32) + (1 : Int32)) + (1 : Int32)) + (1 : Int32)) + (1 : Int32)) + (1 : Int32)) + (1 : Int32)) (mm_ig mm_OWN (((4 : Int32) * (mm_ig mm_ABOVE (mm_ig mm_ABOVE (7 : Int32)))) + (2 : Int32)))) ((((((((0 : Int32) + (1 : Int32)) + (1 : Int32)) + (1 : Int32)) + (1 : Int32)) + (1 : Int32)) + (1 : Int32)) + (1 : Int32)) (mm_ig mm_OWN (((4 : Int32) * (mm_ig mm_ABOVE (mm_ig mm_ABOVE (7 : Int32)))) + (0 : Int32)))) (((((((((0 : Int32) + (1 : Int32)) + (1 : Int32)) + (1 : Int32)) + (1 : Int32)) + (1 : Int32)) + (1 : Int32)) + (1 : Int32)) + (1 : Int32)) (mm_ig mm_OWN (((4 : Int32) * (mm_ig mm_ABOVE (7 : Int32))) + (2 : Int32)))) ((((((((((0 : Int32) + (1 : Int32)) + (1 : Int32)) + (1 : Int32)) + (1 : Int32)) + (1 : Int32)) + (1 : Int32)) + (1 : Int32)) + (1 : Int32)) + (1 : Int32)) (mm_ig mm_OWN (((4 : Int32) * (mm_ig mm_ABOVE (mm_ig mm_ABOVE (7 : Int32)))) + (2 : Int32)))) (((((((((((0 : Int32) + (1 : Int32)) + (1 : Int32)) + (1 : Int32)) + (1 : Int32)) + (1 : Int32)) + (1 : Int32)) + (1 : Int32)) + (1 : Int32)) + (1 : Int32)) + (1 : Int32)) (mm_ig mm_OWN (((4 : Int32) * (mm_ig mm_ABOVE (mm_ig mm_ABOVE (7 : Int32)))) + (0 : Int32)))))) := by
  refine wp_of (uf_X1_call _ _ _ _ _ _ _ _ _ _) ?_
  refine wp_of (uf_X1_call_6 _ _ _ _ _ _ _ _ _ _ _ _) ?_
  refine wp_ifn (by decide) ?_
  refine wp_ifn (by decide) ?_
  refine wp_ck (by decide) ?_
  refine wp_ifn (by decide) ?_
  refine wp_ifn (by decide) ?_
  refine wp_ck (by decide) ?_
  refine wp_ck (by decide) ?_
  refine wp_in3 ?_
  refine wp_of (uf_X1_run _ _ _ _ _ _ _ _ _ _) ?_
  refine wp_of (uf_X1_runo _ _ _ _ _ _ _ _ _ _) ?_
  refine wp_in2 ?_
  refine wp_of (uf_X1_note _ _ _ _) ?_
  refine wp_ifn (by decide) ?_
  refine wp_ck (i_inb (by decide) (by rw [show ((0 : Int32)).toInt = 0 from by decide]; (try simp only [is_len]); omega)) ?_
  refine wp_nm (fun y1 h1 => ?_)
  subst h1
  refine wp_of (uf_X1_note_19 _ _ _) ?_
  refine wp_nm (fun y2 h2 => ?_)
  subst h2
  refine wp_so2 ?_
  show wp _ _
  refine wp_ifn (by decide) ?_
  refine wp_ifn (by decide) ?_
  refine wp_ifn (by decide) ?_
  refine wp_ifn (by decide) ?_
  refine wp_ifn (by decide) ?_
  refine wp_ifn (by decide) ?_
  refine wp_ifn (by decide) ?_
  refine wp_ifn (by decide) ?_
  refine wp_ifn (by decide) ?_
  refine wp_ifn (by decide) ?_
  refine wp_ifn (by decide) ?_
  refine wp_ifn (by decide) ?_
  refine wp_ifp (by decide) ?_
  refine wp_in3 ?_
  refine wp_of (uf_X1_call _ _ _ _ _ _ _ _ _ _) ?_
  refine wp_of (uf_X1_call_6 _ _ _ _ _ _ _ _ _ _ _ _) ?_
  refine wp_ifn (by decide) ?_
  refine wp_ifn (by decide) ?_
  refine wp_ck (by decide) ?_
  refine wp_ifp (by decide) ?_
  refine wp_ck (by decide) ?_
  refine wp_nm (fun y3 h3 => ?_)
  subst h3
  refine wp_nm (fun y4 h4 => ?_)
  subst h4
  refine wp_of (uf_X1_call_6 _ _ _ _ _ _ _ _ _ _ _ _) ?_
  refine wp_ifn (by decide) ?_
  refine wp_ifn (by decide) ?_
  refine wp_ck (by decide) ?_
  refine wp_ifn (by decide) ?_
  refine wp_ifn (by decide) ?_
  refine wp_ck (by decide) ?_
  refine wp_ck (by decide) ?_
  refine wp_in3 ?_
  refine wp_of (uf_X1_run _ _ _ _ _ _ _ _ _ _) ?_
  refine wp_of (uf_X1_runo _ _ _ _ _ _ _ _ _ _) ?_
  refine wp_in2 ?_
  refine wp_of (uf_X1_note _ _ _ _) ?_
  refine wp_ifn (by decide) ?_
  refine wp_ck (i_inb (by decide) (by rw [show (((0 : Int32) + (1 : Int32))).toInt = 1 from by decide]; (try simp only [is_len]); omega)) ?_
  refine wp_nm (fun y5 h5 => ?_)
  subst h5
  refine wp_of (uf_X1_note_19 _ _ _) ?_
  refine wp_nm (fun y6 h6 => ?_)
  subst h6
  refine wp_so2 ?_
  show wp _ _
  refine wp_ifn (by decide) ?_
  refine wp_ifp (by decide) ?_
  refine wp_in3 ?_
  refine wp_of (uf_X1_call _ _ _ _ _ _ _ _ _ _) ?_
  refine wp_of (uf_X1_call_6 _ _ _ _ _ _ _ _ _ _ _ _) ?_
  refine wp_ifn (by decide) ?_
  refine wp_ifn (by decide) ?_
  refine wp_ck (by decide) ?_
  refine wp_ifn (by decide) ?_
  refine wp_ifn (by decide) ?_
  refine wp_ck (by decide) ?_
  refine wp_ck (by decide) ?_
  refine wp_in3 ?_
  refine wp_of (uf_X1_run _ _ _ _ _ _ _ _ _ _) ?_
  refine wp_of (uf_X1_runo _ _ _ _ _ _ _ _ _ _) ?_
  refine wp_in2 ?_
  refine wp_of (uf_X1_note _ _ _ _) ?_
  refine wp_ifn (by decide) ?_
  refine wp_ck (i_inb (by decide) (by rw [show ((((0 : Int32) + (1 : Int32)) + (1 : Int32))).toInt = 2 from by decide]; (try simp only [is_len]); omega)) ?_
  refine wp_nm (fun y7 h7 => ?_)
  subst h7
  refine wp_of (uf_X1_note_19 _ _ _) ?_
  refine wp_nm (fun y8 h8 => ?_)
  subst h8
  refine wp_so2 ?_
  show wp _ _
  refine wp_ifn (by decide) ?_
  refine wp_ifn (by decide) ?_
  refine wp_ifn (by decide) ?_
  refine wp_ifn (by decide) ?_
  refine wp_ifn (by decide) ?_
  refine wp_ifn (by decide) ?_
  refine wp_ifn (by decide) ?_
  refine wp_ifn (by decide) ?_
  refine wp_ifn (by decide) ?_
  refine wp_ifn (by decide) ?_
  refine wp_ifn (by decide) ?_
  refine wp_ifp (by decide) ?_
  refine wp_in3 ?_
  refine wp_of (uf_X1_call _ _ _ _ _ _ _ _ _ _) ?_
  refine wp_of (uf_X1_call_6 _ _ _ _ _ _ _ _ _ _ _ _) ?_
  refine wp_ifn (by decide) ?_
  refine wp_ifn (by decide) ?_
  refine wp_ck (by decide) ?_
  refine wp_ifp (by decide) ?_
  refine wp_ck (by decide) ?_
  refine wp_nm (fun y9 h9 => ?_)
  subst h9
  refine wp_nm (fun y10 h10 => ?_)
  subst h10
  refine wp_of (uf_X1_call_6 _ _ _ _ _ _ _ _ _ _ _ _) ?_
  refine wp_ifn (by decide) ?_
  refine wp_ifn (by decide) ?_
  refine wp_ck (by decide) ?_
  refine wp_ifn (by decide) ?_
  refine wp_ifn (by decide) ?_
  refine wp_ck (by decide) ?_
  refine wp_ck (by decide) ?_
  refine wp_in3 ?_
  refine wp_of (uf_X1_run _ _ _ _ _ _ _ _ _ _) ?_
  refine wp_of (uf_X1_runo _ _ _ _ _ _ _ _ _ _) ?_
  refine wp_in2 ?_
  refine wp_of (uf_X1_note _ _ _ _) ?_
  refine wp_ifn (by decide) ?_
  refine wp_ck (i_inb (by decide) (by rw [show (((((0 : Int32) + (1 : Int32)) + (1 : Int32)) + (1 : Int32))).toInt = 3 from by decide]; (try simp only [is_len]); omega)) ?_
  refine wp_nm (fun y11 h11 => ?_)
  subst h11
  refine wp_of (uf_X1_note_19 _ _ _) ?_
  refine wp_nm (fun y12 h12 => ?_)
  subst h12
  refine wp_so2 ?_
  show wp _ _
  refine wp_ifn (by decide) ?_
  refine wp_ifn (by decide) ?_
  refine wp_ifp (by decide) ?_
  refine wp_in3 ?_
  refine wp_of (uf_X1_call _ _ _ _ _ _ _ _ _ _) ?_
  refine wp_of (uf_X1_call_6 _ _ _ _ _ _ _ _ _ _ _ _) ?_
  refine wp_ifn (by decide) ?_
  refine wp_ifn (by decide) ?_
  refine wp_ck (by decide) ?_
  refine wp_ifp (by decide) ?_
  refine wp_ck (by decide) ?_
  refine wp_nm (fun y13 h13 => ?_)
  subst h13
  refine wp_nm (fun y14 h14 => ?_)
  subst h14
  refine wp_of (uf_X1_call_6 _ _ _ _ _ _ _ _ _ _ _ _) ?_
  refine wp_ifn (by decide) ?_
  refine wp_ifn (by decide) ?_
  refine wp_ck (by decide) ?_
  refine wp_ifp (by decide) ?_
  refine wp_ck (by decide) ?_
  refine wp_nm (fun y15 h15 => ?_)
  subst h15
  refine wp_nm (fun y16 h16 => ?_)
  subst h16
  refine wp_of (uf_X1_call_6 _ _ _ _ _ _ _ _ _ _ _ _) ?_
  refine wp_ifn (by decide) ?_
  refine wp_ifn (by decide) ?_
  refine wp_ck (by decide) ?_
  refine wp_ifn (by decide) ?_
  refine wp_ifn (by decide) ?_
  refine wp_ck (by decide) ?_
  refine wp_ck (by decide) ?_
  refine wp_in3 ?_
  refine wp_of (uf_X1_run _ _ _ _ _ _ _ _ _ _) ?_
  refine wp_of (uf_X1_runo _ _ _ _ _ _ _ _ _ _) ?_
  refine wp_in2 ?_
  refine wp_of (uf_X1_note _ _ _ _) ?_
  refine wp_ifn (by decide) ?_
  refine wp_ck (i_inb (by decide) (by rw [show ((((((0 : Int32) + (1 : Int32)) + (1 : Int32)) + (1 : Int32)) + (1 : Int32))).toInt = 4 from by decide]; (try simp only [is_len]); omega)) ?_
  refine wp_nm (fun y17 h17 => ?_)
  subst h17
  refine wp_of (uf_X1_note_19 _ _ _) ?_
  refine wp_nm (fun y18 h18 => ?_)
  subst h18
  refine wp_so2 ?_
  show wp _ _
  refine wp_ifp (by decide) ?_
  refine wp_so3 ?_
  show wp _ _
  refine wp_so3 ?_
  show wp _ _
  refine wp_so3 ?_
  show wp _ _
  refine wp_so3 ?_
  show wp _ _
  refine wp_in3 ?_
  refine wp_of (uf_X1_call _ _ _ _ _ _ _ _ _ _) ?_
  refine wp_of (uf_X1_call_6 _ _ _ _ _ _ _ _ _ _ _ _) ?_
  refine wp_ifn (by decide) ?_
  refine wp_ifn (by decide) ?_
  refine wp_ck (by decide) ?_
  refine wp_ifp (by decide) ?_
  refine wp_ck (by decide) ?_
  refine wp_nm (fun y19 h19 => ?_)
  subst h19
  refine wp_nm (fun y20 h20 => ?_)
  subst h20
  refine wp_of (uf_X1_call_6 _ _ _ _ _ _ _ _ _ _ _ _) ?_
  refine wp_ifn (by decide) ?_
  refine wp_ifn (by decide) ?_
  refine wp_ck (by decide) ?_
  refine wp_ifn (by decide) ?_
  refine wp_ifn (by decide) ?_
  refine wp_ck (by decide) ?_
  refine wp_ck (by decide) ?_
  refine wp_in3 ?_
  refine wp_of (uf_X1_run _ _ _ _ _ _ _ _ _ _) ?_
  refine wp_of (uf_X1_runo _ _ _ _ _ _ _ _ _ _) ?_
  refine wp_in2 ?_
  refine wp_of (uf_X1_note _ _ _ _) ?_
  refine wp_ifn (by decide) ?_
  refine wp_ck (i_inb (by decide) (by rw [show (((((((0 : Int32) + (1 : Int32)) + (1 : Int32)) + (1 : Int32)) + (1 : Int32)) + (1 : Int32))).toInt = 5 from by decide]; (try simp only [is_len]); omega)) ?_
  refine wp_nm (fun y21 h21 => ?_)
  subst h21
  refine wp_of (uf_X1_note_19 _ _ _) ?_
  refine wp_nm (fun y22 h22 => ?_)
  subst h22
  refine wp_so2 ?_
  show wp _ _
  refine wp_ifn (by decide) ?_
  refine wp_ifn (by decide) ?_
  refine wp_ifn (by decide) ?_
  refine wp_ifn (by decide) ?_
  refine wp_ifn (by decide) ?_
  refine wp_ifn (by decide) ?_
  refine wp_ifn (by decide) ?_
  refine wp_ifn (by decide) ?_
  refine wp_ifp (by decide) ?_
  refine wp_in3 ?_
  refine wp_of (uf_X1_call _ _ _ _ _ _ _ _ _ _) ?_
  refine wp_of (uf_X1_call_6 _ _ _ _ _ _ _ _ _ _ _ _) ?_
  refine wp_ifn (by decide) ?_
  refine wp_ifn (by decide) ?_
  refine wp_ck (by decide) ?_
  refine wp_ifn (by decide) ?_
  refine wp_ifn (by decide) ?_
  refine wp_ck (by decide) ?_
  refine wp_ck (by decide) ?_
  refine wp_in3 ?_
  refine wp_of (uf_X1_run _ _ _ _ _ _ _ _ _ _) ?_
  refine wp_of (uf_X1_runo _ _ _ _ _ _ _ _ _ _) ?_
  refine wp_in2 ?_
  refine wp_of (uf_X1_note _ _ _ _) ?_
  refine wp_ifn (by decide) ?_
  refine wp_ck (i_inb (by decide) (by rw [show ((((((((0 : Int32) + (1 : Int32)) + (1 : Int32)) + (1 : Int32)) + (1 : Int32)) + (1 : Int32)) + (1 : Int32))).toInt = 6 from by decide]; (try simp only [is_len]); omega)) ?_
  refine wp_nm (fun y23 h23 => ?_)
  subst h23
  refine wp_of (uf_X1_note_19 _ _ _) ?_
  refine wp_nm (fun y24 h24 => ?_)
  subst h24
  refine wp_so2 ?_
  show wp _ _
  refine wp_ifn (by decide) ?_
  refine wp_ifn (by decide) ?_
  refine wp_ifn (by decide) ?_
  refine wp_ifp (by decide) ?_
  refine wp_so3 ?_
  show wp _ _
  refine wp_so3 ?_
  show wp _ _
  refine wp_in3 ?_
  refine wp_of (uf_X1_call _ _ _ _ _ _ _ _ _ _) ?_
  refine wp_of (uf_X1_call_6 _ _ _ _ _ _ _ _ _ _ _ _) ?_
  refine wp_ifn (by decide) ?_
  refine wp_ifn (by decide) ?_
  refine wp_ck (by decide) ?_
  refine wp_ifp (by decide) ?_
  refine wp_ck (by decide) ?_
  refine wp_nm (fun y25 h25 => ?_)
  subst h25
  refine wp_nm (fun y26 h26 => ?_)
  subst h26
  refine wp_of (uf_X1_call_6 _ _ _ _ _ _ _ _ _ _ _ _) ?_
  refine wp_ifn (by decide) ?_
  refine wp_ifn (by decide) ?_
  refine wp_ck (by decide) ?_
  refine wp_ifp (by decide) ?_
  refine wp_ck (by decide) ?_
  refine wp_nm (fun y27 h27 => ?_)
  subst h27
  refine wp_nm (fun y28 h28 => ?_)
  subst h28
  refine wp_of (uf_X1_call_6 _ _ _ _ _ _ _ _ _ _ _ _) ?_
  refine wp_ifn (by decide) ?_
  refine wp_ifn (by decide) ?_
  refine wp_ck (by decide) ?_
  refine wp_ifn (by decide) ?_
  refine wp_ifn (by decide) ?_
  refine wp_ck (by decide) ?_
  refine wp_ck (by decide) ?_
  refine wp_in3 ?_
  refine wp_of (uf_X1_run _ _ _ _ _ _ _ _ _ _) ?_
  refine wp_of (uf_X1_runo _ _ _ _ _ _ _ _ _ _) ?_
  refine wp_in2 ?_
  refine wp_of (uf_X1_note _ _ _ _) ?_
  refine wp_ifn (by decide) ?_
  refine wp_ck (i_inb (by decide) (by rw [show (((((((((0 : Int32) + (1 : Int32)) + (1 : Int32)) + (1 : Int32)) + (1 : Int32)) + (1 : Int32)) + (1 : Int32)) + (1 : Int32))).toInt = 7 from by decide]; (try simp only [is_len]); omega)) ?_
  refine wp_nm (fun y29 h29 => ?_)
  subst h29
  refine wp_of (uf_X1_note_19 _ _ _) ?_
  refine wp_nm (fun y30 h30 => ?_)
  subst h30
  refine wp_so2 ?_
  show wp _ _
  refine wp_ifp (by decide) ?_
  refine wp_so3 ?_
  show wp _ _
  refine wp_so3 ?_
  show wp _ _
  refine wp_so3 ?_
  show wp _ _
  refine wp_so3 ?_
  show wp _ _
  refine wp_so3 ?_
  show wp _ _
  refine wp_so3 ?_
  show wp _ _
  refine wp_in3 ?_
  refine wp_of (uf_X1_call _ _ _ _ _ _ _ _ _ _) ?_
  refine wp_of (uf_X1_call_6 _ _ _ _ _ _ _ _ _ _ _ _) ?_
  refine wp_ifn (by decide) ?_
  refine wp_ifn (by decide) ?_
  refine wp_ck (by decide) ?_
  refine wp_ifp (by decide) ?_
  refine wp_ck (by decide) ?_
  refine wp_nm (fun y31 h31 => ?_)
  subst h31
  refine wp_nm (fun y32 h32 => ?_)
  subst h32
  refine wp_of (uf_X1_call_6 _ _ _ _ _ _ _ _ _ _ _ _) ?_
  refine wp_ifn (by decide) ?_
  refine wp_ifn (by decide) ?_
  refine wp_ck (by decide) ?_
  refine wp_ifn (by decide) ?_
  refine wp_ifn (by decide) ?_
  refine wp_ck (by decide) ?_
  refine wp_ck (by decide) ?_
  refine wp_in3 ?_
  refine wp_of (uf_X1_run _ _ _ _ _ _ _ _ _ _) ?_
  refine wp_of (uf_X1_runo _ _ _ _ _ _ _ _ _ _) ?_
  refine wp_in2 ?_
  refine wp_of (uf_X1_note _ _ _ _) ?_
  refine wp_ifn (by decide) ?_
  refine wp_ck (i_inb (by decide) (by rw [show ((((((((((0 : Int32) + (1 : Int32)) + (1 : Int32)) + (1 : Int32)) + (1 : Int32)) + (1 : Int32)) + (1 : Int32)) + (1 : Int32)) + (1 : Int32))).toInt = 8 from by decide]; (try simp only [is_len]); omega)) ?_
  refine wp_nm (fun y33 h33 => ?_)
  subst h33
  refine wp_of (uf_X1_note_19 _ _ _) ?_
  refine wp_nm (fun y34 h34 => ?_)
  subst h34
  refine wp_so2 ?_
  show wp _ _
  refine wp_ifn (by decide) ?_
  refine wp_ifn (by decide) ?_
  refine wp_ifn (by decide) ?_
  refine wp_ifn (by decide) ?_
  refine wp_ifn (by decide) ?_
  refine wp_ifn (by decide) ?_
  refine wp_ifn (by decide) ?_
  refine wp_ifn (by decide) ?_
  refine wp_ifp (by decide) ?_
  refine wp_in3 ?_
  refine wp_of (uf_X1_call _ _ _ _ _ _ _ _ _ _) ?_
  refine wp_of (uf_X1_call_6 _ _ _ _ _ _ _ _ _ _ _ _) ?_
  refine wp_ifn (by decide) ?_
  refine wp_ifn (by decide) ?_
  refine wp_ck (by decide) ?_
  refine wp_ifn (by decide) ?_
  refine wp_ifn (by decide) ?_
  refine wp_ck (by decide) ?_
  refine wp_ck (by decide) ?_
  refine wp_in3 ?_
  refine wp_of (uf_X1_run _ _ _ _ _ _ _ _ _ _) ?_
  refine wp_of (uf_X1_runo _ _ _ _ _ _ _ _ _ _) ?_
  refine wp_in2 ?_
  refine wp_of (uf_X1_note _ _ _ _) ?_
  refine wp_ifn (by decide) ?_
  refine wp_ck (i_inb (by decide) (by rw [show (((((((((((0 : Int32) + (1 : Int32)) + (1 : Int32)) + (1 : Int32)) + (1 : Int32)) + (1 : Int32)) + (1 : Int32)) + (1 : Int32)) + (1 : Int32)) + (1 : Int32))).toInt = 9 from by decide]; (try simp only [is_len]); omega)) ?_
  refine wp_nm (fun y35 h35 => ?_)
  subst h35
  refine wp_of (uf_X1_note_19 _ _ _) ?_
  refine wp_nm (fun y36 h36 => ?_)
  subst h36
  refine wp_so2 ?_
  show wp _ _
  refine wp_ifn (by decide) ?_
  refine wp_ifn (by decide) ?_
  refine wp_ifn (by decide) ?_
  refine wp_ifp (by decide) ?_
  refine wp_so3 ?_
  show wp _ _
  refine wp_so3 ?_
  show wp _ _
  refine wp_in3 ?_
  refine wp_of (uf_X1_call _ _ _ _ _ _ _ _ _ _) ?_
  refine wp_of (uf_X1_call_6 _ _ _ _ _ _ _ _ _ _ _ _) ?_
  refine wp_ifn (by decide) ?_
  refine wp_ifn (by decide) ?_
  refine wp_ck (by decide) ?_
  refine wp_ifp (by decide) ?_
  refine wp_ck (by decide) ?_
  refine wp_nm (fun y37 h37 => ?_)
  subst h37
  refine wp_nm (fun y38 h38 => ?_)
  subst h38
  refine wp_of (uf_X1_call_6 _ _ _ _ _ _ _ _ _ _ _ _) ?_
  refine wp_ifn (by decide) ?_
  refine wp_ifn (by decide) ?_
  refine wp_ck (by decide) ?_
  refine wp_ifp (by decide) ?_
  refine wp_ck (by decide) ?_
  refine wp_nm (fun y39 h39 => ?_)
  subst h39
  refine wp_nm (fun y40 h40 => ?_)
  subst h40
  refine wp_of (uf_X1_call_6 _ _ _ _ _ _ _ _ _ _ _ _) ?_
  refine wp_ifn (by decide) ?_
  refine wp_ifn (by decide) ?_
  refine wp_ck (by decide) ?_
  refine wp_ifn (by decide) ?_
  refine wp_ifn (by decide) ?_
  refine wp_ck (by decide) ?_
  refine wp_ck (by decide) ?_
  refine wp_in3 ?_
  refine wp_of (uf_X1_run _ _ _ _ _ _ _ _ _ _) ?_
  refine wp_of (uf_X1_runo _ _ _ _ _ _ _ _ _ _) ?_
  refine wp_in2 ?_
  refine wp_of (uf_X1_note _ _ _ _) ?_
  refine wp_ifn (by decide) ?_
  refine wp_ck (i_inb (by decide) (by rw [show ((((((((((((0 : Int32) + (1 : Int32)) + (1 : Int32)) + (1 : Int32)) + (1 : Int32)) + (1 : Int32)) + (1 : Int32)) + (1 : Int32)) + (1 : Int32)) + (1 : Int32)) + (1 : Int32))).toInt = 10 from by decide]; (try simp only [is_len]); omega)) ?_
  refine wp_nm (fun y41 h41 => ?_)
  subst h41
  refine wp_of (uf_X1_note_19 _ _ _) ?_
  refine wp_nm (fun y42 h42 => ?_)
  subst h42
  refine wp_so2 ?_
  show wp _ _
  refine wp_ifp (by decide) ?_
  refine wp_so3 ?_
  show wp _ _
  refine wp_so3 ?_
  show wp _ _
  refine wp_so3 ?_
  show wp _ _
  refine wp_so3 ?_
  show wp _ _
  refine wp_so3 ?_
  show wp _ _
  refine wp_so3 ?_
  show wp _ _
  refine wp_so3 ?_
  show wp _ _
  exact wp_so3 ⟨rfl, rfl, rfl⟩
end
section
/-! acts of the reference, kind by kind -/
theorem uf_X9_begins (N : Nat) (x1 : Int32) (v_ran : Int32) (v_trace : List Int32) : fX9_begins N x1 v_ran v_trace = if (24 : Int32) ≤ v_ran then
    (fX9_begins_19 N v_ran v_trace)
    else (mm_ck (mm_inb v_ran v_trace.length) (mm_nm (mm_is v_trace v_ran x1) (fun (l_3 : List Int32) =>
    fX9_begins_19 N v_ran l_3))) := rfl

theorem uf_X9_begins_19 (N : Nat) (v_ran : Int32) (v_trace : List Int32) : fX9_begins_19 N v_ran v_trace = mm_nm ((v_ran + (1 : Int32))) (fun (y_4 : Int32) =>
    some (y_4, v_trace)) := rfl

theorem uf_X9_foldsAs (N : Nat) (M : Nat) (z0 : Int32) (z1 : Int32) (z2 : Int32) (z3 : Int32) (z4 : List Int32) : fX9_foldsAs N (M + 1) z0 z1 z2 z3 z4 = (fX9_foldsAso N (fX9_foldsAs N M)) z0 z1 z2 z3 z4 := rfl

theorem uf_X9_foldsAso (N : Nat) (go : Int32 → Int32 → Int32 → Int32 → List Int32 → Option (Int32 × Int32 × List Int32)) (x1 : Int32) (x2 : Int32) (v_ran : Int32) (v_ownNumber : Int32) (v_trace : List Int32) : fX9_foldsAso N go x1 x2 v_ran v_ownNumber v_trace = if x1 = (6 : Int32) then
    (mm_bd2 (fX9_begins N (70 : Int32) v_ran v_trace) (fun (w_13 : Int32) (w_14 : List Int32) =>
    mm_bd3 (go (1 : Int32) x2 w_13 v_ownNumber w_14) (fun (r_16 : Int32) (w_17 : Int32) (w_18 : List Int32) =>
    some ((r_16 * (2 : Int32)), w_17, w_18))))
    else (if x1 = (1 : Int32) then
    (mm_bd2 (fX9_begins N (20 : Int32) v_ran v_trace) (fun (w_6 : Int32) (w_7 : List Int32) =>
    mm_bd3 (go (0 : Int32) x2 w_6 v_ownNumber w_7) (fun (r_9 : Int32) (w_10 : Int32) (w_11 : List Int32) =>
    some ((r_9 + (3 : Int32)), w_10, w_11))))
    else (mm_bd2 (fX9_begins N (1 : Int32) v_ran v_trace) (fun (w_3 : Int32) (w_4 : List Int32) =>
    some ((x2 + v_ownNumber), w_3, w_4)))) := rfl

theorem uf_X9_laysAs (N : Nat) (M : Nat) (z0 : Int32) (z1 : Int32) (z2 : Int32) (z3 : Int32) (z4 : Int32) (z5 : List Int32) : fX9_laysAs N (M + 1) z0 z1 z2 z3 z4 z5 = (fX9_laysAso N (fX9_laysAs N M)) z0 z1 z2 z3 z4 z5 := rfl

theorem uf_X9_laysAso (N : Nat) (go : Int32 → Int32 → Int32 → Int32 → Int32 → List Int32 → Option (Int32 × Int32 × List Int32)) (x1 : Int32) (x2 : Int32) (v_ran : Int32) (v_ownKind : Int32) (v_ownNumber : Int32) (v_trace : List Int32) : fX9_laysAso N go x1 x2 v_ran v_ownKind v_ownNumber v_trace = if x1 = (3 : Int32) then
    (fX9_laysAs_10 N go x2 v_ran v_ownKind v_ownNumber v_trace)
    else (if x1 = (5 : Int32) then
    (fX9_laysAs_10 N go x2 v_ran v_ownKind v_ownNumber v_trace)
    else (if x1 = (2 : Int32) then
    (mm_bd2 (fX9_begins N (30 : Int32) v_ran v_trace) (fun (w_23 : Int32) (w_24 : List Int32) =>
    mm_bd3 (go (0 : Int32) x2 w_23 v_ownKind v_ownNumber w_24) (fun (r_26 : Int32) (w_27 : Int32) (w_28 : List Int32) =>
    some ((-r_26), w_27, w_28))))
    else (if x1 = (7 : Int32) then
    (mm_bd2 (fX9_begins N (80 : Int32) v_ran v_trace) (fun (w_12 : Int32) (w_13 : List Int32) =>
    mm_bd3 (go (4 : Int32) x2 w_12 v_ownKind v_ownNumber w_13) (fun (r_15 : Int32) (w_16 : Int32) (w_17 : List Int32) =>
    mm_bd3 (fX9_wearsAs N 4 v_ownKind (2 : Int32) w_16 v_ownKind v_ownNumber w_17) (fun (r_19 : Int32) (w_20 : Int32) (w_21 : List Int32) =>
    some ((r_15 + r_19), w_20, w_21)))))
    else (mm_bd2 (fX9_begins N (10 : Int32) v_ran v_trace) (fun (w_5 : Int32) (w_6 : List Int32) =>
    mm_bd3 (fX9_foldsAs N 4 v_ownKind x2 w_5 v_ownNumber w_6) (fun (r_8 : Int32) (w_9 : Int32) (w_10 : List Int32) =>
    some ((r_8 * (2 : Int32)), w_9, w_10))))))) := rfl

theorem uf_X9_wearsAs (N : Nat) (M : Nat) (z0 : Int32) (z1 : Int32) (z2 : Int32) (z3 : Int32) (z4 : Int32) (z5 : List Int32) : fX9_wearsAs N (M + 1) z0 z1 z2 z3 z4 z5 = (fX9_wearsAso N (fX9_wearsAs N M)) z0 z1 z2 z3 z4 z5 := rfl

theorem uf_X9_wearsAso (N : Nat) (go : Int32 → Int32 → Int32 → Int32 → Int32 → List Int32 → Option (Int32 × Int32 × List Int32)) (x1 : Int32) (x2 : Int32) (v_ran : Int32) (v_ownKind : Int32) (v_ownNumber : Int32) (v_trace : List Int32) : fX9_wearsAso N go x1 x2 v_ran v_ownKind v_ownNumber v_trace = if x1 = (3 : Int32) then
    (fX9_wearsAs_10 N go x2 v_ran v_ownKind v_ownNumber v_trace)
    else (if x1 = (5 : Int32) then
    (fX9_wearsAs_10 N go x2 v_ran v_ownKind v_ownNumber v_trace)
    else (if x1 = (4 : Int32) then
    (fX9_wearsAs_36 N go x2 v_ran v_ownKind v_ownNumber v_trace)
    else (if x1 = (7 : Int32) then
    (fX9_wearsAs_36 N go x2 v_ran v_ownKind v_ownNumber v_trace)
    else (mm_bd2 (fX9_begins N (11 : Int32) v_ran v_trace) (fun (w_5 : Int32) (w_6 : List Int32) =>
    some ((x2 ^^^ v_ownNumber), w_5, w_6)))))) := rfl

theorem uf_X9_tellsAs (N : Nat) (M : Nat) (z0 : Int32) (z1 : Int32) (z2 : Int32) (z3 : Int32) (z4 : Int32) (z5 : List Int32) : fX9_tellsAs N (M + 1) z0 z1 z2 z3 z4 z5 = (fX9_tellsAso N (fX9_tellsAs N M)) z0 z1 z2 z3 z4 z5 := rfl

theorem uf_X9_tellsAso (N : Nat) (go : Int32 → Int32 → Int32 → Int32 → Int32 → List Int32 → Option (Int32 × Int32 × List Int32)) (x1 : Int32) (x2 : Int32) (v_ran : Int32) (v_ownKind : Int32) (v_ownNumber : Int32) (v_trace : List Int32) : fX9_tellsAso N go x1 x2 v_ran v_ownKind v_ownNumber v_trace = if x1 = (5 : Int32) then
    (mm_bd2 (fX9_begins N (60 : Int32) v_ran v_trace) (fun (w_21 : Int32) (w_22 : List Int32) =>
    mm_bd3 (go (3 : Int32) x2 w_21 v_ownKind v_ownNumber w_22) (fun (r_24 : Int32) (w_25 : Int32) (w_26 : List Int32) =>
    some ((r_24 ^^^ (5 : Int32)), w_25, w_26))))
    else (if x1 = (7 : Int32) then
    (mm_bd2 (fX9_begins N (81 : Int32) v_ran v_trace) (fun (w_14 : Int32) (w_15 : List Int32) =>
    mm_bd3 (go (4 : Int32) x2 w_14 v_ownKind v_ownNumber w_15) (fun (r_17 : Int32) (w_18 : Int32) (w_19 : List Int32) =>
    some ((r_17 - (1 : Int32)), w_18, w_19))))
    else (mm_bd2 (fX9_begins N (2 : Int32) v_ran v_trace) (fun (w_3 : Int32) (w_4 : List Int32) =>
    mm_bd3 (fX9_laysAs N 5 v_ownKind x2 w_3 v_ownKind v_ownNumber w_4) (fun (r_6 : Int32) (w_7 : Int32) (w_8 : List Int32) =>
    mm_bd3 (fX9_wearsAs N 4 v_ownKind (1 : Int32) w_7 v_ownKind v_ownNumber w_8) (fun (r_10 : Int32) (w_11 : Int32) (w_12 : List Int32) =>
    some ((r_6 - r_10), w_11, w_12)))))) := rfl

theorem uf_X9_laysAs_10 (N : Nat) (go : Int32 → Int32 → Int32 → Int32 → Int32 → List Int32 → Option (Int32 × Int32 × List Int32)) (x2 : Int32) (v_ran : Int32) (v_ownKind : Int32) (v_ownNumber : Int32) (v_trace : List Int32) : fX9_laysAs_10 N go x2 v_ran v_ownKind v_ownNumber v_trace = mm_bd2 (fX9_begins N (41 : Int32) v_ran v_trace) (fun (w_30 : Int32) (w_31 : List Int32) =>
    mm_bd3 (go (2 : Int32) (x2 + (1 : Int32)) w_30 v_ownKind v_ownNumber w_31) (fun (r_33 : Int32) (w_34 : Int32) (w_35 : List Int32) =>
    some (r_33, w_34, w_35))) := rfl

theorem uf_X9_wearsAs_10 (N : Nat) (go : Int32 → Int32 → Int32 → Int32 → Int32 → List Int32 → Option (Int32 × Int32 × List Int32)) (x2 : Int32) (v_ran : Int32) (v_ownKind : Int32) (v_ownNumber : Int32) (v_trace : List Int32) : fX9_wearsAs_10 N go x2 v_ran v_ownKind v_ownNumber v_trace = mm_bd2 (fX9_begins N (40 : Int32) v_ran v_trace) (fun (w_19 : Int32) (w_20 : List Int32) =>
    mm_bd3 (go (2 : Int32) x2 w_19 v_ownKind v_ownNumber w_20) (fun (r_22 : Int32) (w_23 : Int32) (w_24 : List Int32) =>
    some ((r_22 * (3 : Int32)), w_23, w_24))) := rfl

theorem uf_X9_wearsAs_36 (N : Nat) (go : Int32 → Int32 → Int32 → Int32 → Int32 → List Int32 → Option (Int32 × Int32 × List Int32)) (x2 : Int32) (v_ran : Int32) (v_ownKind : Int32) (v_ownNumber : Int32) (v_trace : List Int32) : fX9_wearsAs_36 N go x2 v_ran v_ownKind v_ownNumber v_trace = mm_bd2 (fX9_begins N (50 : Int32) v_ran v_trace) (fun (w_8 : Int32) (w_9 : List Int32) =>
    mm_bd3 (go (0 : Int32) x2 w_8 v_ownKind v_ownNumber w_9) (fun (r_11 : Int32) (w_12 : Int32) (w_13 : List Int32) =>
    mm_bd3 (fX9_foldsAs N 4 v_ownKind (2 : Int32) w_12 v_ownNumber w_13) (fun (r_15 : Int32) (w_16 : Int32) (w_17 : List Int32) =>
    some ((r_11 - r_15), w_16, w_17)))) := rfl

set_option maxRecDepth 20000 in
theorem ac9_0_0 (x b : Int32) (tr : List Int32) (hl : tr.length = 24) : wp (fX9_foldsAs 700 4 (0 : Int32) x (0 : Int32) b tr) (cu3 (fun r0 r1 r2 => r0 = (x + b) ∧ r1 = ((0 : Int32) + (1 : Int32)) ∧ r2 = (mm_is tr (0 : Int32) (1 : Int32)))) := by
  refine wp_of (uf_X9_foldsAs _ _ _ _ _ _ _) ?_
  refine wp_of (uf_X9_foldsAso _ _ _ _ _ _ _) ?_
  refine wp_ifn (by decide) ?_
  refine wp_ifn (by decide) ?_
  refine wp_in2 ?_
  refine wp_of (uf_X9_begins _ _ _ _) ?_
  refine wp_ifn (by decide) ?_
  refine wp_ck (i_inb (by decide) (by rw [show ((0 : Int32)).toInt = 0 from by decide]; (try simp only [is_len]); omega)) ?_
  refine wp_nm (fun y1 h1 => ?_)
  subst h1
  refine wp_of (uf_X9_begins_19 _ _ _) ?_
  refine wp_nm (fun y2 h2 => ?_)
  subst h2
  refine wp_so2 ?_
  show wp _ _
  exact wp_so3 ⟨rfl, rfl, rfl⟩

set_option maxRecDepth 20000 in
theorem ac9_0_1 (x b : Int32) (tr : List Int32) (hl : tr.length = 24) : wp (fX9_laysAs 700 5 (0 : Int32) x (0 : Int32) (0 : Int32) b tr) (cu3 (fun r0 r1 r2 => r0 = ((x + b) * (2 : Int32)) ∧ r1 = (((0 : Int32) + (1 : Int32)) + (1 : Int32)) ∧ r2 = (mm_is (mm_is tr (0 : Int32) (10 : Int32)) ((0 : Int32) + (1 : Int32)) (1 : Int32)))) := by
  refine wp_of (uf_X9_laysAs _ _ _ _ _ _ _ _) ?_
  refine wp_of (uf_X9_laysAso _ _ _ _ _ _ _ _) ?_
  refine wp_ifn (by decide) ?_
  refine wp_ifn (by decide) ?_
  refine wp_ifn (by decide) ?_
  refine wp_ifn (by decide) ?_
  refine wp_in2 ?_
  refine wp_of (uf_X9_begins _ _ _ _) ?_
  refine wp_ifn (by decide) ?_
  refine wp_ck (i_inb (by decide) (by rw [show ((0 : Int32)).toInt = 0 from by decide]; (try simp only [is_len]); omega)) ?_
  refine wp_nm (fun y1 h1 => ?_)
  subst h1
  refine wp_of (uf_X9_begins_19 _ _ _) ?_
  refine wp_nm (fun y2 h2 => ?_)
  subst h2
  refine wp_so2 ?_
  show wp _ _
  refine wp_in3 ?_
  refine wp_of (uf_X9_foldsAs _ _ _ _ _ _ _) ?_
  refine wp_of (uf_X9_foldsAso _ _ _ _ _ _ _) ?_
  refine wp_ifn (by decide) ?_
  refine wp_ifn (by decide) ?_
  refine wp_in2 ?_
  refine wp_of (uf_X9_begins _ _ _ _) ?_
  refine wp_ifn (by decide) ?_
  refine wp_ck (i_inb (by decide) (by rw [show (((0 : Int32) + (1 : Int32))).toInt = 1 from by decide]; (try simp only [is_len]); omega)) ?_
  refine wp_nm (fun y3 h3 => ?_)
  subst h3
  refine wp_of (uf_X9_begins_19 _ _ _) ?_
  refine wp_nm (fun y4 h4 => ?_)
  subst h4
  refine wp_so2 ?_
  show wp _ _
  refine wp_so3 ?_
  show wp _ _
  exact wp_so3 ⟨rfl, rfl, rfl⟩

set_option maxRecDepth 20000 in
theorem ac9_0_2 (x b : Int32) (tr : List Int32) (hl : tr.length = 24) : wp (fX9_wearsAs 700 4 (0 : Int32) x (0 : Int32) (0 : Int32) b tr) (cu3 (fun r0 r1 r2 => r0 = (x ^^^ b) ∧ r1 = ((0 : Int32) + (1 : Int32)) ∧ r2 = (mm_is tr (0 : Int32) (11 : Int32)))) := by
  refine wp_of (uf_X9_wearsAs _ _ _ _ _ _ _ _) ?_
  refine wp_of (uf_X9_wearsAso _ _ _ _ _ _ _ _) ?_
  refine wp_ifn (by decide) ?_
  refine wp_ifn (by decide) ?_
  refine wp_ifn (by decide) ?_
  refine wp_ifn (by decide) ?_
  refine wp_in2 ?_
  refine wp_of (uf_X9_begins _ _ _ _) ?_
  refine wp_ifn (by decide) ?_
  refine wp_ck (i_inb (by decide) (by rw [show ((0 : Int32)).toInt = 0 from by decide]; (try simp only [is_len]); omega)) ?_
  refine wp_nm (fun y1 h1 => ?_)
  subst h1
  refine wp_of (uf_X9_begins_19 _ _ _) ?_
  refine wp_nm (fun y2 h2 => ?_)
  subst h2
  refine wp_so2 ?_
  show wp _ _
  exact wp_so3 ⟨rfl, rfl, rfl⟩

set_option maxRecDepth 20000 in
theorem ac9_0_3 (x b : Int32) (tr : List Int32) (hl : tr.length = 24) : wp (fX9_tellsAs 700 4 (0 : Int32) x (0 : Int32) (0 : Int32) b tr) (cu3 (fun r0 r1 r2 => r0 = (((x + b) * (2 : Int32)) - ((1 : Int32) ^^^ b)) ∧ r1 = (((((0 : Int32) + (1 : Int32)) + (1 : Int32)) + (1 : Int32)) + (1 : Int32)) ∧ r2 = (mm_is (mm_is (mm_is (mm_is tr (0 : Int32) (2 : Int32)) ((0 : Int32) + (1 : Int32)) (10 : Int32)) (((0 : Int32) + (1 : Int32)) + (1 : Int32)) (1 : Int32)) ((((0 : Int32) + (1 : Int32)) + (1 : Int32)) + (1 : Int32)) (11 : Int32)))) := by
  refine wp_of (uf_X9_tellsAs _ _ _ _ _ _ _ _) ?_
  refine wp_of (uf_X9_tellsAso _ _ _ _ _ _ _ _) ?_
  refine wp_ifn (by decide) ?_
  refine wp_ifn (by decide) ?_
  refine wp_in2 ?_
  refine wp_of (uf_X9_begins _ _ _ _) ?_
  refine wp_ifn (by decide) ?_
  refine wp_ck (i_inb (by decide) (by rw [show ((0 : Int32)).toInt = 0 from by decide]; (try simp only [is_len]); omega)) ?_
  refine wp_nm (fun y1 h1 => ?_)
  subst h1
  refine wp_of (uf_X9_begins_19 _ _ _) ?_
  refine wp_nm (fun y2 h2 => ?_)
  subst h2
  refine wp_so2 ?_
  show wp _ _
  refine wp_in3 ?_
  refine wp_of (uf_X9_laysAs _ _ _ _ _ _ _ _) ?_
  refine wp_of (uf_X9_laysAso _ _ _ _ _ _ _ _) ?_
  refine wp_ifn (by decide) ?_
  refine wp_ifn (by decide) ?_
  refine wp_ifn (by decide) ?_
  refine wp_ifn (by decide) ?_
  refine wp_in2 ?_
  refine wp_of (uf_X9_begins _ _ _ _) ?_
  refine wp_ifn (by decide) ?_
  refine wp_ck (i_inb (by decide) (by rw [show (((0 : Int32) + (1 : Int32))).toInt = 1 from by decide]; (try simp only [is_len]); omega)) ?_
  refine wp_nm (fun y3 h3 => ?_)
  subst h3
  refine wp_of (uf_X9_begins_19 _ _ _) ?_
  refine wp_nm (fun y4 h4 => ?_)
  subst h4
  refine wp_so2 ?_
  show wp _ _
  refine wp_in3 ?_
  refine wp_of (uf_X9_foldsAs _ _ _ _ _ _ _) ?_
  refine wp_of (uf_X9_foldsAso _ _ _ _ _ _ _) ?_
  refine wp_ifn (by decide) ?_
  refine wp_ifn (by decide) ?_
  refine wp_in2 ?_
  refine wp_of (uf_X9_begins _ _ _ _) ?_
  refine wp_ifn (by decide) ?_
  refine wp_ck (i_inb (by decide) (by rw [show ((((0 : Int32) + (1 : Int32)) + (1 : Int32))).toInt = 2 from by decide]; (try simp only [is_len]); omega)) ?_
  refine wp_nm (fun y5 h5 => ?_)
  subst h5
  refine wp_of (uf_X9_begins_19 _ _ _) ?_
  refine wp_nm (fun y6 h6 => ?_)
  subst h6
  refine wp_so2 ?_
  show wp _ _
  refine wp_so3 ?_
  show wp _ _
  refine wp_so3 ?_
  show wp _ _
  refine wp_in3 ?_
  refine wp_of (uf_X9_wearsAs _ _ _ _ _ _ _ _) ?_
  refine wp_of (uf_X9_wearsAso _ _ _ _ _ _ _ _) ?_
  refine wp_ifn (by decide) ?_
  refine wp_ifn (by decide) ?_
  refine wp_ifn (by decide) ?_
  refine wp_ifn (by decide) ?_
  refine wp_in2 ?_
  refine wp_of (uf_X9_begins _ _ _ _) ?_
  refine wp_ifn (by decide) ?_
  refine wp_ck (i_inb (by decide) (by rw [show (((((0 : Int32) + (1 : Int32)) + (1 : Int32)) + (1 : Int32))).toInt = 3 from by decide]; (try simp only [is_len]); omega)) ?_
  refine wp_nm (fun y7 h7 => ?_)
  subst h7
  refine wp_of (uf_X9_begins_19 _ _ _) ?_
  refine wp_nm (fun y8 h8 => ?_)
  subst h8
  refine wp_so2 ?_
  show wp _ _
  refine wp_so3 ?_
  show wp _ _
  exact wp_so3 ⟨rfl, rfl, rfl⟩

set_option maxRecDepth 20000 in
theorem ac9_1_0 (x b : Int32) (tr : List Int32) (hl : tr.length = 24) : wp (fX9_foldsAs 700 4 (1 : Int32) x (0 : Int32) b tr) (cu3 (fun r0 r1 r2 => r0 = ((x + b) + (3 : Int32)) ∧ r1 = (((0 : Int32) + (1 : Int32)) + (1 : Int32)) ∧ r2 = (mm_is (mm_is tr (0 : Int32) (20 : Int32)) ((0 : Int32) + (1 : Int32)) (1 : Int32)))) := by
  refine wp_of (uf_X9_foldsAs _ _ _ _ _ _ _) ?_
  refine wp_of (uf_X9_foldsAso _ _ _ _ _ _ _) ?_
  refine wp_ifn (by decide) ?_
  refine wp_ifp (by decide) ?_
  refine wp_in2 ?_
  refine wp_of (uf_X9_begins _ _ _ _) ?_
  refine wp_ifn (by decide) ?_
  refine wp_ck (i_inb (by decide) (by rw [show ((0 : Int32)).toInt = 0 from by decide]; (try simp only [is_len]); omega)) ?_
  refine wp_nm (fun y1 h1 => ?_)
  subst h1
  refine wp_of (uf_X9_begins_19 _ _ _) ?_
  refine wp_nm (fun y2 h2 => ?_)
  subst h2
  refine wp_so2 ?_
  show wp _ _
  refine wp_in3 ?_
  refine wp_of (uf_X9_foldsAs _ _ _ _ _ _ _) ?_
  refine wp_of (uf_X9_foldsAso _ _ _ _ _ _ _) ?_
  refine wp_ifn (by decide) ?_
  refine wp_ifn (by decide) ?_
  refine wp_in2 ?_
  refine wp_of (uf_X9_begins _ _ _ _) ?_
  refine wp_ifn (by decide) ?_
  refine wp_ck (i_inb (by decide) (by rw [show (((0 : Int32) + (1 : Int32))).toInt = 1 from by decide]; (try simp only [is_len]); omega)) ?_
  refine wp_nm (fun y3 h3 => ?_)
  subst h3
  refine wp_of (uf_X9_begins_19 _ _ _) ?_
  refine wp_nm (fun y4 h4 => ?_)
  subst h4
  refine wp_so2 ?_
  show wp _ _
  refine wp_so3 ?_
  show wp _ _
  exact wp_so3 ⟨rfl, rfl, rfl⟩

set_option maxRecDepth 20000 in
theorem ac9_1_1 (x b : Int32) (tr : List Int32) (hl : tr.length = 24) : wp (fX9_laysAs 700 5 (1 : Int32) x (0 : Int32) (1 : Int32) b tr) (cu3 (fun r0 r1 r2 => r0 = (((x + b) + (3 : Int32)) * (2 : Int32)) ∧ r1 = ((((0 : Int32) + (1 : Int32)) + (1 : Int32)) + (1 : Int32)) ∧ r2 = (mm_is (mm_is (mm_is tr (0 : Int32) (10 : Int32)) ((0 : Int32) + (1 : Int32)) (20 : Int32)) (((0 : Int32) + (1 : Int32)) + (1 : Int32)) (1 : Int32)))) := by
  refine wp_of (uf_X9_laysAs _ _ _ _ _ _ _ _) ?_
  refine wp_of (uf_X9_laysAso _ _ _ _ _ _ _ _) ?_
  refine wp_ifn (by decide) ?_
  refine wp_ifn (by decide) ?_
  refine wp_ifn (by decide) ?_
  refine wp_ifn (by decide) ?_
  refine wp_in2 ?_
  refine wp_of (uf_X9_begins _ _ _ _) ?_
  refine wp_ifn (by decide) ?_
  refine wp_ck (i_inb (by decide) (by rw [show ((0 : Int32)).toInt = 0 from by decide]; (try simp only [is_len]); omega)) ?_
  refine wp_nm (fun y1 h1 => ?_)
  subst h1
  refine wp_of (uf_X9_begins_19 _ _ _) ?_
  refine wp_nm (fun y2 h2 => ?_)
  subst h2
  refine wp_so2 ?_
  show wp _ _
  refine wp_in3 ?_
  refine wp_of (uf_X9_foldsAs _ _ _ _ _ _ _) ?_
  refine wp_of (uf_X9_foldsAso _ _ _ _ _ _ _) ?_
  refine wp_ifn (by decide) ?_
  refine wp_ifp (by decide) ?_
  refine wp_in2 ?_
  refine wp_of (uf_X9_begins _ _ _ _) ?_
  refine wp_ifn (by decide) ?_
  refine wp_ck (i_inb (by decide) (by rw [show (((0 : Int32) + (1 : Int32))).toInt = 1 from by decide]; (try simp only [is_len]); omega)) ?_
  refine wp_nm (fun y3 h3 => ?_)
  subst h3
  refine wp_of (uf_X9_begins_19 _ _ _) ?_
  refine wp_nm (fun y4 h4 => ?_)
  subst h4
  refine wp_so2 ?_
  show wp _ _
  refine wp_in3 ?_
  refine wp_of (uf_X9_foldsAs _ _ _ _ _ _ _) ?_
  refine wp_of (uf_X9_foldsAso _ _ _ _ _ _ _) ?_
  refine wp_ifn (by decide) ?_
  refine wp_ifn (by decide) ?_
  refine wp_in2 ?_
  refine wp_of (uf_X9_begins _ _ _ _) ?_
  refine wp_ifn (by decide) ?_
  refine wp_ck (i_inb (by decide) (by rw [show ((((0 : Int32) + (1 : Int32)) + (1 : Int32))).toInt = 2 from by decide]; (try simp only [is_len]); omega)) ?_
  refine wp_nm (fun y5 h5 => ?_)
  subst h5
  refine wp_of (uf_X9_begins_19 _ _ _) ?_
  refine wp_nm (fun y6 h6 => ?_)
  subst h6
  refine wp_so2 ?_
  show wp _ _
  refine wp_so3 ?_
  show wp _ _
  refine wp_so3 ?_
  show wp _ _
  exact wp_so3 ⟨rfl, rfl, rfl⟩

set_option maxRecDepth 20000 in
theorem ac9_1_2 (x b : Int32) (tr : List Int32) (hl : tr.length = 24) : wp (fX9_wearsAs 700 4 (1 : Int32) x (0 : Int32) (1 : Int32) b tr) (cu3 (fun r0 r1 r2 => r0 = (x ^^^ b) ∧ r1 = ((0 : Int32) + (1 : Int32)) ∧ r2 = (mm_is tr (0 : Int32) (11 : Int32)))) := by
  refine wp_of (uf_X9_wearsAs _ _ _ _ _ _ _ _) ?_
  refine wp_of (uf_X9_wearsAso _ _ _ _ _ _ _ _) ?_
  refine wp_ifn (by decide) ?_
  refine wp_ifn (by decide) ?_
  refine wp_ifn (by decide) ?_
  refine wp_ifn (by decide) ?_
  refine wp_in2 ?_
  refine wp_of (uf_X9_begins _ _ _ _) ?_
  refine wp_ifn (by decide) ?_
  refine wp_ck (i_inb (by decide) (by rw [show ((0 : Int32)).toInt = 0 from by decide]; (try simp only [is_len]); omega)) ?_
  refine wp_nm (fun y1 h1 => ?_)
  subst h1
  refine wp_of (uf_X9_begins_19 _ _ _) ?_
  refine wp_nm (fun y2 h2 => ?_)
  subst h2
  refine wp_so2 ?_
  show wp _ _
  exact wp_so3 ⟨rfl, rfl, rfl⟩

set_option maxRecDepth 20000 in
theorem ac9_1_3 (x b : Int32) (tr : List Int32) (hl : tr.length = 24) : wp (fX9_tellsAs 700 4 (1 : Int32) x (0 : Int32) (1 : Int32) b tr) (cu3 (fun r0 r1 r2 => r0 = ((((x + b) + (3 : Int32)) * (2 : Int32)) - ((1 : Int32) ^^^ b)) ∧ r1 = ((((((0 : Int32) + (1 : Int32)) + (1 : Int32)) + (1 : Int32)) + (1 : Int32)) + (1 : Int32)) ∧ r2 = (mm_is (mm_is (mm_is (mm_is (mm_is tr (0 : Int32) (2 : Int32)) ((0 : Int32) + (1 : Int32)) (10 : Int32)) (((0 : Int32) + (1 : Int32)) + (1 : Int32)) (20 : Int32)) ((((0 : Int32) + (1 : Int32)) + (1 : Int32)) + (1 : Int32)) (1 : Int32)) (((((0 : Int32) + (1 : Int32)) + (1 : Int32)) + (1 : Int32)) + (1 : Int32)) (11 : Int32)))) := by
  refine wp_of (uf_X9_tellsAs _ _ _ _ _ _ _ _) ?_
  refine wp_of (uf_X9_tellsAso _ _ _ _ _ _ _ _) ?_
  refine wp_ifn (by decide) ?_
  refine wp_ifn (by decide) ?_
  refine wp_in2 ?_
  refine wp_of (uf_X9_begins _ _ _ _) ?_
  refine wp_ifn (by decide) ?_
  refine wp_ck (i_inb (by decide) (by rw [show ((0 : Int32)).toInt = 0 from by decide]; (try simp only [is_len]); omega)) ?_
  refine wp_nm (fun y1 h1 => ?_)
  subst h1
  refine wp_of (uf_X9_begins_19 _ _ _) ?_
  refine wp_nm (fun y2 h2 => ?_)
  subst h2
  refine wp_so2 ?_
  show wp _ _
  refine wp_in3 ?_
  refine wp_of (uf_X9_laysAs _ _ _ _ _ _ _ _) ?_
  refine wp_of (uf_X9_laysAso _ _ _ _ _ _ _ _) ?_
  refine wp_ifn (by decide) ?_
  refine wp_ifn (by decide) ?_
  refine wp_ifn (by decide) ?_
  refine wp_ifn (by decide) ?_
  refine wp_in2 ?_
  refine wp_of (uf_X9_begins _ _ _ _) ?_
  refine wp_ifn (by decide) ?_
  refine wp_ck (i_inb (by decide) (by rw [show (((0 : Int32) + (1 : Int32))).toInt = 1 from by decide]; (try simp only [is_len]); omega)) ?_
  refine wp_nm (fun y3 h3 => ?_)
  subst h3
  refine wp_of (uf_X9_begins_19 _ _ _) ?_
  refine wp_nm (fun y4 h4 => ?_)
  subst h4
  refine wp_so2 ?_
  show wp _ _
  refine wp_in3 ?_
  refine wp_of (uf_X9_foldsAs _ _ _ _ _ _ _) ?_
  refine wp_of (uf_X9_foldsAso _ _ _ _ _ _ _) ?_
  refine wp_ifn (by decide) ?_
  refine wp_ifp (by decide) ?_
  refine wp_in2 ?_
  refine wp_of (uf_X9_begins _ _ _ _) ?_
  refine wp_ifn (by decide) ?_
  refine wp_ck (i_inb (by decide) (by rw [show ((((0 : Int32) + (1 : Int32)) + (1 : Int32))).toInt = 2 from by decide]; (try simp only [is_len]); omega)) ?_
  refine wp_nm (fun y5 h5 => ?_)
  subst h5
  refine wp_of (uf_X9_begins_19 _ _ _) ?_
  refine wp_nm (fun y6 h6 => ?_)
  subst h6
  refine wp_so2 ?_
  show wp _ _
  refine wp_in3 ?_
  refine wp_of (uf_X9_foldsAs _ _ _ _ _ _ _) ?_
  refine wp_of (uf_X9_foldsAso _ _ _ _ _ _ _) ?_
  refine wp_ifn (by decide) ?_
  refine wp_ifn (by decide) ?_
  refine wp_in2 ?_
  refine wp_of (uf_X9_begins _ _ _ _) ?_
  refine wp_ifn (by decide) ?_
  refine wp_ck (i_inb (by decide) (by rw [show (((((0 : Int32) + (1 : Int32)) + (1 : Int32)) + (1 : Int32))).toInt = 3 from by decide]; (try simp only [is_len]); omega)) ?_
  refine wp_nm (fun y7 h7 => ?_)
  subst h7
  refine wp_of (uf_X9_begins_19 _ _ _) ?_
  refine wp_nm (fun y8 h8 => ?_)
  subst h8
  refine wp_so2 ?_
  show wp _ _
  refine wp_so3 ?_
  show wp _ _
  refine wp_so3 ?_
  show wp _ _
  refine wp_so3 ?_
  show wp _ _
  refine wp_in3 ?_
  refine wp_of (uf_X9_wearsAs _ _ _ _ _ _ _ _) ?_
  refine wp_of (uf_X9_wearsAso _ _ _ _ _ _ _ _) ?_
  refine wp_ifn (by decide) ?_
  refine wp_ifn (by decide) ?_
  refine wp_ifn (by decide) ?_
  refine wp_ifn (by decide) ?_
  refine wp_in2 ?_
  refine wp_of (uf_X9_begins _ _ _ _) ?_
  refine wp_ifn (by decide) ?_
  refine wp_ck (i_inb (by decide) (by rw [show ((((((0 : Int32) + (1 : Int32)) + (1 : Int32)) + (1 : Int32)) + (1 : Int32))).toInt = 4 from by decide]; (try simp only [is_len]); omega)) ?_
  refine wp_nm (fun y9 h9 => ?_)
  subst h9
  refine wp_of (uf_X9_begins_19 _ _ _) ?_
  refine wp_nm (fun y10 h10 => ?_)
  subst h10
  refine wp_so2 ?_
  show wp _ _
  refine wp_so3 ?_
  show wp _ _
  exact wp_so3 ⟨rfl, rfl, rfl⟩

set_option maxRecDepth 20000 in
theorem ac9_2_0 (x b : Int32) (tr : List Int32) (hl : tr.length = 24) : wp (fX9_foldsAs 700 4 (2 : Int32) x (0 : Int32) b tr) (cu3 (fun r0 r1 r2 => r0 = (x + b) ∧ r1 = ((0 : Int32) + (1 : Int32)) ∧ r2 = (mm_is tr (0 : Int32) (1 : Int32)))) := by
  refine wp_of (uf_X9_foldsAs _ _ _ _ _ _ _) ?_
  refine wp_of (uf_X9_foldsAso _ _ _ _ _ _ _) ?_
  refine wp_ifn (by decide) ?_
  refine wp_ifn (by decide) ?_
  refine wp_in2 ?_
  refine wp_of (uf_X9_begins _ _ _ _) ?_
  refine wp_ifn (by decide) ?_
  refine wp_ck (i_inb (by decide) (by rw [show ((0 : Int32)).toInt = 0 from by decide]; (try simp only [is_len]); omega)) ?_
  refine wp_nm (fun y1 h1 => ?_)
  subst h1
  refine wp_of (uf_X9_begins_19 _ _ _) ?_
  refine wp_nm (fun y2 h2 => ?_)
  subst h2
  refine wp_so2 ?_
  show wp _ _
  exact wp_so3 ⟨rfl, rfl, rfl⟩

set_option maxRecDepth 20000 in
theorem ac9_2_1 (x b : Int32) (tr : List Int32) (hl : tr.length = 24) : wp (fX9_laysAs 700 5 (2 : Int32) x (0 : Int32) (2 : Int32) b tr) (cu3 (fun r0 r1 r2 => r0 = (-((x + b) * (2 : Int32))) ∧ r1 = ((((0 : Int32) + (1 : Int32)) + (1 : Int32)) + (1 : Int32)) ∧ r2 = (mm_is (mm_is (mm_is tr (0 : Int32) (30 : Int32)) ((0 : Int32) + (1 : Int32)) (10 : Int32)) (((0 : Int32) + (1 : Int32)) + (1 : Int32)) (1 : Int32)))) := by
  refine wp_of (uf_X9_laysAs _ _ _ _ _ _ _ _) ?_
  refine wp_of (uf_X9_laysAso _ _ _ _ _ _ _ _) ?_
  refine wp_ifn (by decide) ?_
  refine wp_ifn (by decide) ?_
  refine wp_ifp (by decide) ?_
  refine wp_in2 ?_
  refine wp_of (uf_X9_begins _ _ _ _) ?_
  refine wp_ifn (by decide) ?_
  refine wp_ck (i_inb (by decide) (by rw [show ((0 : Int32)).toInt = 0 from by decide]; (try simp only [is_len]); omega)) ?_
  refine wp_nm (fun y1 h1 => ?_)
  subst h1
  refine wp_of (uf_X9_begins_19 _ _ _) ?_
  refine wp_nm (fun y2 h2 => ?_)
  subst h2
  refine wp_so2 ?_
  show wp _ _
  refine wp_in3 ?_
  refine wp_of (uf_X9_laysAs _ _ _ _ _ _ _ _) ?_
  refine wp_of (uf_X9_laysAso _ _ _ _ _ _ _ _) ?_
  refine wp_ifn (by decide) ?_
  refine wp_ifn (by decide) ?_
  refine wp_ifn (by decide) ?_
  refine wp_ifn (by decide) ?_
  refine wp_in2 ?_
  refine wp_of (uf_X9_begins _ _ _ _) ?_
  refine wp_ifn (by decide) ?_
  refine wp_ck (i_inb (by decide) (by rw [show (((0 : Int32) + (1 : Int32))).toInt = 1 from by decide]; (try simp only [is_len]); omega)) ?_
  refine wp_nm (fun y3 h3 => ?_)
  subst h3
  refine wp_of (uf_X9_begins_19 _ _ _) ?_
  refine wp_nm (fun y4 h4 => ?_)
  subst h4
  refine wp_so2 ?_
  show wp _ _
  refine wp_in3 ?_
  refine wp_of (uf_X9_foldsAs _ _ _ _ _ _ _) ?_
  refine wp_of (uf_X9_foldsAso _ _ _ _ _ _ _) ?_
  refine wp_ifn (by decide) ?_
  refine wp_ifn (by decide) ?_
  refine wp_in2 ?_
  refine wp_of (uf_X9_begins _ _ _ _) ?_
  refine wp_ifn (by decide) ?_
  refine wp_ck (i_inb (by decide) (by rw [show ((((0 : Int32) + (1 : Int32)) + (1 : Int32))).toInt = 2 from by decide]; (try simp only [is_len]); omega)) ?_
  refine wp_nm (fun y5 h5 => ?_)
  subst h5
  refine wp_of (uf_X9_begins_19 _ _ _) ?_
  refine wp_nm (fun y6 h6 => ?_)
  subst h6
  refine wp_so2 ?_
  show wp _ _
  refine wp_so3 ?_
  show wp _ _
  refine wp_so3 ?_
  show wp _ _
  exact wp_so3 ⟨rfl, rfl, rfl⟩

set_option maxRecDepth 20000 in
theorem ac9_2_2 (x b : Int32) (tr : List Int32) (hl : tr.length = 24) : wp (fX9_wearsAs 700 4 (2 : Int32) x (0 : Int32) (2 : Int32) b tr) (cu3 (fun r0 r1 r2 => r0 = (x ^^^ b) ∧ r1 = ((0 : Int32) + (1 : Int32)) ∧ r2 = (mm_is tr (0 : Int32) (11 : Int32)))) := by
  refine wp_of (uf_X9_wearsAs _ _ _ _ _ _ _ _) ?_
  refine wp_of (uf_X9_wearsAso _ _ _ _ _ _ _ _) ?_
  refine wp_ifn (by decide) ?_
  refine wp_ifn (by decide) ?_
  refine wp_ifn (by decide) ?_
  refine wp_ifn (by decide) ?_
  refine wp_in2 ?_
  refine wp_of (uf_X9_begins _ _ _ _) ?_
  refine wp_ifn (by decide) ?_
  refine wp_ck (i_inb (by decide) (by rw [show ((0 : Int32)).toInt = 0 from by decide]; (try simp only [is_len]); omega)) ?_
  refine wp_nm (fun y1 h1 => ?_)
  subst h1
  refine wp_of (uf_X9_begins_19 _ _ _) ?_
  refine wp_nm (fun y2 h2 => ?_)
  subst h2
  refine wp_so2 ?_
  show wp _ _
  exact wp_so3 ⟨rfl, rfl, rfl⟩

set_option maxRecDepth 20000 in
theorem ac9_2_3 (x b : Int32) (tr : List Int32) (hl : tr.length = 24) : wp (fX9_tellsAs 700 4 (2 : Int32) x (0 : Int32) (2 : Int32) b tr) (cu3 (fun r0 r1 r2 => r0 = ((-((x + b) * (2 : Int32))) - ((1 : Int32) ^^^ b)) ∧ r1 = ((((((0 : Int32) + (1 : Int32)) + (1 : Int32)) + (1 : Int32)) + (1 : Int32)) + (1 : Int32)) ∧ r2 = (mm_is (mm_is (mm_is (mm_is (mm_is tr (0 : Int32) (2 : Int32)) ((0 : Int32) + (1 : Int32)) (30 : Int32)) (((0 : Int32) + (1 : Int32)) + (1 : Int32)) (10 : Int32)) ((((0 : Int32) + (1 : Int32)) + (1 : Int32)) + (1 : Int32)) (1 : Int32)) (((((0 : Int32) + (1 : Int32)) + (1 : Int32)) + (1 : Int32)) + (1 : Int32)) (11 : Int32)))) := by
  refine wp_of (uf_X9_tellsAs _ _ _ _ _ _ _ _) ?_
  refine wp_of (uf_X9_tellsAso _ _ _ _ _ _ _ _) ?_
  refine wp_ifn (by decide) ?_
  refine wp_ifn (by decide) ?_
  refine wp_in2 ?_
  refine wp_of (uf_X9_begins _ _ _ _) ?_
  refine wp_ifn (by decide) ?_
  refine wp_ck (i_inb (by decide) (by rw [show ((0 : Int32)).toInt = 0 from by decide]; (try simp only [is_len]); omega)) ?_
  refine wp_nm (fun y1 h1 => ?_)
  subst h1
  refine wp_of (uf_X9_begins_19 _ _ _) ?_
  refine wp_nm (fun y2 h2 => ?_)
  subst h2
  refine wp_so2 ?_
  show wp _ _
  refine wp_in3 ?_
  refine wp_of (uf_X9_laysAs _ _ _ _ _ _ _ _) ?_
  refine wp_of (uf_X9_laysAso _ _ _ _ _ _ _ _) ?_
  refine wp_ifn (by decide) ?_
  refine wp_ifn (by decide) ?_
  refine wp_ifp (by decide) ?_
  refine wp_in2 ?_
  refine wp_of (uf_X9_begins _ _ _ _) ?_
  refine wp_ifn (by decide) ?_
  refine wp_ck (i_inb (by decide) (by rw [show (((0 : Int32) + (1 : Int32))).toInt = 1 from by decide]; (try simp only [is_len]); omega)) ?_
  refine wp_nm (fun y3 h3 => ?_)
  subst h3
  refine wp_of (uf_X9_begins_19 _ _ _) ?_
  refine wp_nm (fun y4 h4 => ?_)
  subst h4
  refine wp_so2 ?_
  show wp _ _
  refine wp_in3 ?_
  refine wp_of (uf_X9_laysAs _ _ _ _ _ _ _ _) ?_
  refine wp_of (uf_X9_laysAso _ _ _ _ _ _ _ _) ?_
  refine wp_ifn (by decide) ?_
  refine wp_ifn (by decide) ?_
  refine wp_ifn (by decide) ?_
  refine wp_ifn (by decide) ?_
  refine wp_in2 ?_
  refine wp_of (uf_X9_begins _ _ _ _) ?_
  refine wp_ifn (by decide) ?_
  refine wp_ck (i_inb (by decide) (by rw [show ((((0 : Int32) + (1 : Int32)) + (1 : Int32))).toInt = 2 from by decide]; (try simp only [is_len]); omega)) ?_
  refine wp_nm (fun y5 h5 => ?_)
  subst h5
  refine wp_of (uf_X9_begins_19 _ _ _) ?_
  refine wp_nm (fun y6 h6 => ?_)
  subst h6
  refine wp_so2 ?_
  show wp _ _
  refine wp_in3 ?_
  refine wp_of (uf_X9_foldsAs _ _ _ _ _ _ _) ?_
  refine wp_of (uf_X9_foldsAso _ _ _ _ _ _ _) ?_
  refine wp_ifn (by decide) ?_
  refine wp_ifn (by decide) ?_
  refine wp_in2 ?_
  refine wp_of (uf_X9_begins _ _ _ _) ?_
  refine wp_ifn (by decide) ?_
  refine wp_ck (i_inb (by decide) (by rw [show (((((0 : Int32) + (1 : Int32)) + (1 : Int32)) + (1 : Int32))).toInt = 3 from by decide]; (try simp only [is_len]); omega)) ?_
  refine wp_nm (fun y7 h7 => ?_)
  subst h7
  refine wp_of (uf_X9_begins_19 _ _ _) ?_
  refine wp_nm (fun y8 h8 => ?_)
  subst h8
  refine wp_so2 ?_
  show wp _ _
  refine wp_so3 ?_
  show wp _ _
  refine wp_so3 ?_
  show wp _ _
  refine wp_so3 ?_
  show wp _ _
  refine wp_in3 ?_
  refine wp_of (uf_X9_wearsAs _ _ _ _ _ _ _ _) ?_
  refine wp_of (uf_X9_wearsAso _ _ _ _ _ _ _ _) ?_
  refine wp_ifn (by decide) ?_
  refine wp_ifn (by decide) ?_
  refine wp_ifn (by decide) ?_
  refine wp_ifn (by decide) ?_
  refine wp_in2 ?_
  refine wp_of (uf_X9_begins _ _ _ _) ?_
  refine wp_ifn (by decide) ?_
  refine wp_ck (i_inb (by decide) (by rw [show ((((((0 : Int32) + (1 : Int32)) + (1 : Int32)) + (1 : Int32)) + (1 : Int32))).toInt = 4 from by decide]; (try simp only [is_len]); omega)) ?_
  refine wp_nm (fun y9 h9 => ?_)
  subst h9
  refine wp_of (uf_X9_begins_19 _ _ _) ?_
  refine wp_nm (fun y10 h10 => ?_)
  subst h10
  refine wp_so2 ?_
  show wp _ _
  refine wp_so3 ?_
  show wp _ _
  exact wp_so3 ⟨rfl, rfl, rfl⟩

set_option maxRecDepth 20000 in
theorem ac9_3_0 (x b : Int32) (tr : List Int32) (hl : tr.length = 24) : wp (fX9_foldsAs 700 4 (3 : Int32) x (0 : Int32) b tr) (cu3 (fun r0 r1 r2 => r0 = (x + b) ∧ r1 = ((0 : Int32) + (1 : Int32)) ∧ r2 = (mm_is tr (0 : Int32) (1 : Int32)))) := by
  refine wp_of (uf_X9_foldsAs _ _ _ _ _ _ _) ?_
  refine wp_of (uf_X9_foldsAso _ _ _ _ _ _ _) ?_
  refine wp_ifn (by decide) ?_
  refine wp_ifn (by decide) ?_
  refine wp_in2 ?_
  refine wp_of (uf_X9_begins _ _ _ _) ?_
  refine wp_ifn (by decide) ?_
  refine wp_ck (i_inb (by decide) (by rw [show ((0 : Int32)).toInt = 0 from by decide]; (try simp only [is_len]); omega)) ?_
  refine wp_nm (fun y1 h1 => ?_)
  subst h1
  refine wp_of (uf_X9_begins_19 _ _ _) ?_
  refine wp_nm (fun y2 h2 => ?_)
  subst h2
  refine wp_so2 ?_
  show wp _ _
  exact wp_so3 ⟨rfl, rfl, rfl⟩

set_option maxRecDepth 20000 in
theorem ac9_3_1 (x b : Int32) (tr : List Int32) (hl : tr.length = 24) : wp (fX9_laysAs 700 5 (3 : Int32) x (0 : Int32) (3 : Int32) b tr) (cu3 (fun r0 r1 r2 => r0 = (-(((x + (1 : Int32)) + b) * (2 : Int32))) ∧ r1 = (((((0 : Int32) + (1 : Int32)) + (1 : Int32)) + (1 : Int32)) + (1 : Int32)) ∧ r2 = (mm_is (mm_is (mm_is (mm_is tr (0 : Int32) (41 : Int32)) ((0 : Int32) + (1 : Int32)) (30 : Int32)) (((0 : Int32) + (1 : Int32)) + (1 : Int32)) (10 : Int32)) ((((0 : Int32) + (1 : Int32)) + (1 : Int32)) + (1 : Int32)) (1 : Int32)))) := by
  refine wp_of (uf_X9_laysAs _ _ _ _ _ _ _ _) ?_
  refine wp_of (uf_X9_laysAso _ _ _ _ _ _ _ _) ?_
  refine wp_ifp (by decide) ?_
  refine wp_of (uf_X9_laysAs_10 _ _ _ _ _ _ _) ?_
  refine wp_in2 ?_
  refine wp_of (uf_X9_begins _ _ _ _) ?_
  refine wp_ifn (by decide) ?_
  refine wp_ck (i_inb (by decide) (by rw [show ((0 : Int32)).toInt = 0 from by decide]; (try simp only [is_len]); omega)) ?_
  refine wp_nm (fun y1 h1 => ?_)
  subst h1
  refine wp_of (uf_X9_begins_19 _ _ _) ?_
  refine wp_nm (fun y2 h2 => ?_)
  subst h2
  refine wp_so2 ?_
  show wp _ _
  refine wp_in3 ?_
  refine wp_of (uf_X9_laysAs _ _ _ _ _ _ _ _) ?_
  refine wp_of (uf_X9_laysAso _ _ _ _ _ _ _ _) ?_
  refine wp_ifn (by decide) ?_
  refine wp_ifn (by decide) ?_
  refine wp_ifp (by decide) ?_
  refine wp_in2 ?_
  refine wp_of (uf_X9_begins _ _ _ _) ?_
  refine wp_ifn (by decide) ?_
  refine wp_ck (i_inb (by decide) (by rw [show (((0 : Int32) + (1 : Int32))).toInt = 1 from by decide]; (try simp only [is_len]); omega)) ?_
  refine wp_nm (fun y3 h3 => ?_)
  subst h3
  refine wp_of (uf_X9_begins_19 _ _ _) ?_
  refine wp_nm (fun y4 h4 => ?_)
  subst h4
  refine wp_so2 ?_
  show wp _ _
  refine wp_in3 ?_
  refine wp_of (uf_X9_laysAs _ _ _ _ _ _ _ _) ?_
  refine wp_of (uf_X9_laysAso _ _ _ _ _ _ _ _) ?_
  refine wp_ifn (by decide) ?_
  refine wp_ifn (by decide) ?_
  refine wp_ifn (by decide) ?_
  refine wp_ifn (by decide) ?_
  refine wp_in2 ?_
  refine wp_of (uf_X9_begins _ _ _ _) ?_
  refine wp_ifn (by decide) ?_
  refine wp_ck (i_inb (by decide) (by rw [show ((((0 : Int32) + (1 : Int32)) + (1 : Int32))).toInt = 2 from by decide]; (try simp only [is_len]); omega)) ?_
  refine wp_nm (fun y5 h5 => ?_)
  subst h5
  refine wp_of (uf_X9_begins_19 _ _ _) ?_
  refine wp_nm (fun y6 h6 => ?_)
  subst h6
  refine wp_so2 ?_
  show wp _ _
  refine wp_in3 ?_
  refine wp_of (uf_X9_foldsAs _ _ _ _ _ _ _) ?_
  refine wp_of (uf_X9_foldsAso _ _ _ _ _ _ _) ?_
  refine wp_ifn (by decide) ?_
  refine wp_ifn (by decide) ?_
  refine wp_in2 ?_
  refine wp_of (uf_X9_begins _ _ _ _) ?_
  refine wp_ifn (by decide) ?_
  refine wp_ck (i_inb (by decide) (by rw [show (((((0 : Int32) + (1 : Int32)) + (1 : Int32)) + (1 : Int32))).toInt = 3 from by decide]; (try simp only [is_len]); omega)) ?_
  refine wp_nm (fun y7 h7 => ?_)
  subst h7
  refine wp_of (uf_X9_begins_19 _ _ _) ?_
  refine wp_nm (fun y8 h8 => ?_)
  subst h8
  refine wp_so2 ?_
  show wp _ _
  refine wp_so3 ?_
  show wp _ _
  refine wp_so3 ?_
  show wp _ _
  refine wp_so3 ?_
  show wp _ _
  exact wp_so3 ⟨rfl, rfl, rfl⟩

set_option maxRecDepth 20000 in
theorem ac9_3_2 (x b : Int32) (tr : List Int32) (hl : tr.length = 24) : wp (fX9_wearsAs 700 4 (3 : Int32) x (0 : Int32) (3 : Int32) b tr) (cu3 (fun r0 r1 r2 => r0 = ((x ^^^ b) * (3 : Int32)) ∧ r1 = (((0 : Int32) + (1 : Int32)) + (1 : Int32)) ∧ r2 = (mm_is (mm_is tr (0 : Int32) (40 : Int32)) ((0 : Int32) + (1 : Int32)) (11 : Int32)))) := by
  refine wp_of (uf_X9_wearsAs _ _ _ _ _ _ _ _) ?_
  refine wp_of (uf_X9_wearsAso _ _ _ _ _ _ _ _) ?_
  refine wp_ifp (by decide) ?_
  refine wp_of (uf_X9_wearsAs_10 _ _ _ _ _ _ _) ?_
  refine wp_in2 ?_
  refine wp_of (uf_X9_begins _ _ _ _) ?_
  refine wp_ifn (by decide) ?_
  refine wp_ck (i_inb (by decide) (by rw [show ((0 : Int32)).toInt = 0 from by decide]; (try simp only [is_len]); omega)) ?_
  refine wp_nm (fun y1 h1 => ?_)
  subst h1
  refine wp_of (uf_X9_begins_19 _ _ _) ?_
  refine wp_nm (fun y2 h2 => ?_)
  subst h2
  refine wp_so2 ?_
  show wp _ _
  refine wp_in3 ?_
  refine wp_of (uf_X9_wearsAs _ _ _ _ _ _ _ _) ?_
  refine wp_of (uf_X9_wearsAso _ _ _ _ _ _ _ _) ?_
  refine wp_ifn (by decide) ?_
  refine wp_ifn (by decide) ?_
  refine wp_ifn (by decide) ?_
  refine wp_ifn (by decide) ?_
  refine wp_in2 ?_
  refine wp_of (uf_X9_begins _ _ _ _) ?_
  refine wp_ifn (by decide) ?_
  refine wp_ck (i_inb (by decide) (by rw [show (((0 : Int32) + (1 : Int32))).toInt = 1 from by decide]; (try simp only [is_len]); omega)) ?_
  refine wp_nm (fun y3 h3 => ?_)
  subst h3
  refine wp_of (uf_X9_begins_19 _ _ _) ?_
  refine wp_nm (fun y4 h4 => ?_)
  subst h4
  refine wp_so2 ?_
  show wp _ _
  refine wp_so3 ?_
  show wp _ _
  exact wp_so3 ⟨rfl, rfl, rfl⟩

set_option maxRecDepth 20000 in
theorem ac9_3_3 (x b : Int32) (tr : List Int32) (hl : tr.length = 24) : wp (fX9_tellsAs 700 4 (3 : Int32) x (0 : Int32) (3 : Int32) b tr) (cu3 (fun r0 r1 r2 => r0 = ((-(((x + (1 : Int32)) + b) * (2 : Int32))) - (((1 : Int32) ^^^ b) * (3 : Int32))) ∧ r1 = ((((((((0 : Int32) + (1 : Int32)) + (1 : Int32)) + (1 : Int32)) + (1 : Int32)) + (1 : Int32)) + (1 : Int32)) + (1 : Int32)) ∧ r2 = (mm_is (mm_is (mm_is (mm_is (mm_is (mm_is (mm_is tr (0 : Int32) (2 : Int32)) ((0 : Int32) + (1 : Int32)) (41 : Int32)) (((0 : Int32) + (1 : Int32)) + (1 : Int32)) (30 : Int32)) ((((0 : Int32) + (1 : Int32)) + (1 : Int32)) + (1 : Int32)) (10 : Int32)) (((((0 : Int32) + (1 : Int32)) + (1 : Int32)) + (1 : Int32)) + (1 : Int32)) (1 : Int32)) ((((((0 : Int32) + (1 : Int32)) + (1 : Int32)) + (1 : Int32)) + (1 : Int32)) + (1 : Int32)) (40 : Int32)) (((((((0 : Int32) + (1 : Int32)) + (1 : Int32)) + (1 : Int32)) + (1 : Int32)) + (1 : Int32)) + (1 : Int32)) (11 : Int32)))) := by
  refine wp_of (uf_X9_tellsAs _ _ _ _ _ _ _ _) ?_
  refine wp_of (uf_X9_tellsAso _ _ _ _ _ _ _ _) ?_
  refine wp_ifn (by decide) ?_
  refine wp_ifn (by decide) ?_
  refine wp_in2 ?_
  refine wp_of (uf_X9_begins _ _ _ _) ?_
  refine wp_ifn (by decide) ?_
  refine wp_ck (i_inb (by decide) (by rw [show ((0 : Int32)).toInt = 0 from by decide]; (try simp only [is_len]); omega)) ?_
  refine wp_nm (fun y1 h1 => ?_)
  subst h1
  refine wp_of (uf_X9_begins_19 _ _ _) ?_
  refine wp_nm (fun y2 h2 => ?_)
  subst h2
  refine wp_so2 ?_
  show wp _ _
  refine wp_in3 ?_
  refine wp_of (uf_X9_laysAs _ _ _ _ _ _ _ _) ?_
  refine wp_of (uf_X9_laysAso _ _ _ _ _ _ _ _) ?_
  refine wp_ifp (by decide) ?_
  refine wp_of (uf_X9_laysAs_10 _ _ _ _ _ _ _) ?_
  refine wp_in2 ?_
  refine wp_of (uf_X9_begins _ _ _ _) ?_
  refine wp_ifn (by decide) ?_
  refine wp_ck (i_inb (by decide) (by rw [show (((0 : Int32) + (1 : Int32))).toInt = 1 from by decide]; (try simp only [is_len]); omega)) ?_
  refine wp_nm (fun y3 h3 => ?_)
  subst h3
  refine wp_of (uf_X9_begins_19 _ _ _) ?_
  refine wp_nm (fun y4 h4 => ?_)
  subst h4
  refine wp_so2 ?_
  show wp _ _
  refine wp_in3 ?_
  refine wp_of (uf_X9_laysAs _ _ _ _ _ _ _ _) ?_
  refine wp_of (uf_X9_laysAso _ _ _ _ _ _ _ _) ?_
  refine wp_ifn (by decide) ?_
  refine wp_ifn (by decide) ?_
  refine wp_ifp (by decide) ?_
  refine wp_in2 ?_
  refine wp_of (uf_X9_begins _ _ _ _) ?_
  refine wp_ifn (by decide) ?_
  refine wp_ck (i_inb (by decide) (by rw [show ((((0 : Int32) + (1 : Int32)) + (1 : Int32))).toInt = 2 from by decide]; (try simp only [is_len]); omega)) ?_
  refine wp_nm (fun y5 h5 => ?_)
  subst h5
  refine wp_of (uf_X9_begins_19 _ _ _) ?_
  refine wp_nm (fun y6 h6 => ?_)
  subst h6
  refine wp_so2 ?_
  show wp _ _
  refine wp_in3 ?_
  refine wp_of (uf_X9_laysAs _ _ _ _ _ _ _ _) ?_
  refine wp_of (uf_X9_laysAso _ _ _ _ _ _ _ _) ?_
  refine wp_ifn (by decide) ?_
  refine wp_ifn (by decide) ?_
  refine wp_ifn (by decide) ?_
  refine wp_ifn (by decide) ?_
  refine wp_in2 ?_
  refine wp_of (uf_X9_begins _ _ _ _) ?_
  refine wp_ifn (by decide) ?_
  refine wp_ck (i_inb (by decide) (by rw [show (((((0 : Int32) + (1 : Int32)) + (1 : Int32)) + (1 : Int32))).toInt = 3 from by decide]; (try simp only [is_len]); omega)) ?_
  refine wp_nm (fun y7 h7 => ?_)
  subst h7
  refine wp_of (uf_X9_begins_19 _ _ _) ?_
  refine wp_nm (fun y8 h8 => ?_)
  subst h8
  refine wp_so2 ?_
  show wp _ _
  refine wp_in3 ?_
  refine wp_of (uf_X9_foldsAs _ _ _ _ _ _ _) ?_
  refine wp_of (uf_X9_foldsAso _ _ _ _ _ _ _) ?_
  refine wp_ifn (by decide) ?_
  refine wp_ifn (by decide) ?_
  refine wp_in2 ?_
  refine wp_of (uf_X9_begins _ _ _ _) ?_
  refine wp_ifn (by decide) ?_
  refine wp_ck (i_inb (by decide) (by rw [show ((((((0 : Int32) + (1 : Int32)) + (1 : Int32)) + (1 : Int32)) + (1 : Int32))).toInt = 4 from by decide]; (try simp only [is_len]); omega)) ?_
  refine wp_nm (fun y9 h9 => ?_)
  subst h9
  refine wp_of (uf_X9_begins_19 _ _ _) ?_
  refine wp_nm (fun y10 h10 => ?_)
  subst h10
  refine wp_so2 ?_
  show wp _ _
  refine wp_so3 ?_
  show wp _ _
  refine wp_so3 ?_
  show wp _ _
  refine wp_so3 ?_
  show wp _ _
  refine wp_so3 ?_
  show wp _ _
  refine wp_in3 ?_
  refine wp_of (uf_X9_wearsAs _ _ _ _ _ _ _ _) ?_
  refine wp_of (uf_X9_wearsAso _ _ _ _ _ _ _ _) ?_
  refine wp_ifp (by decide) ?_
  refine wp_of (uf_X9_wearsAs_10 _ _ _ _ _ _ _) ?_
  refine wp_in2 ?_
  refine wp_of (uf_X9_begins _ _ _ _) ?_
  refine wp_ifn (by decide) ?_
  refine wp_ck (i_inb (by decide) (by rw [show (((((((0 : Int32) + (1 : Int32)) + (1 : Int32)) + (1 : Int32)) + (1 : Int32)) + (1 : Int32))).toInt = 5 from by decide]; (try simp only [is_len]); omega)) ?_
  refine wp_nm (fun y11 h11 => ?_)
  subst h11
  refine wp_of (uf_X9_begins_19 _ _ _) ?_
  refine wp_nm (fun y12 h12 => ?_)
  subst h12
  refine wp_so2 ?_
  show wp _ _
  refine wp_in3 ?_
  refine wp_of (uf_X9_wearsAs _ _ _ _ _ _ _ _) ?_
  refine wp_of (uf_X9_wearsAso _ _ _ _ _ _ _ _) ?_
  refine wp_ifn (by decide) ?_
  refine wp_ifn (by decide) ?_
  refine wp_ifn (by decide) ?_
  refine wp_ifn (by decide) ?_
  refine wp_in2 ?_
  refine wp_of (uf_X9_begins _ _ _ _) ?_
  refine wp_ifn (by decide) ?_
  refine wp_ck (i_inb (by decide) (by rw [show ((((((((0 : Int32) + (1 : Int32)) + (1 : Int32)) + (1 : Int32)) + (1 : Int32)) + (1 : Int32)) + (1 : Int32))).toInt = 6 from by decide]; (try simp only [is_len]); omega)) ?_
  refine wp_nm (fun y13 h13 => ?_)
  subst h13
  refine wp_of (uf_X9_begins_19 _ _ _) ?_
  refine wp_nm (fun y14 h14 => ?_)
  subst h14
  refine wp_so2 ?_
  show wp _ _
  refine wp_so3 ?_
  show wp _ _
  refine wp_so3 ?_
  show wp _ _
  exact wp_so3 ⟨rfl, rfl, rfl⟩

set_option maxRecDepth 20000 in
theorem ac9_4_0 (x b : Int32) (tr : List Int32) (hl : tr.length = 24) : wp (fX9_foldsAs 700 4 (4 : Int32) x (0 : Int32) b tr) (cu3 (fun r0 r1 r2 => r0 = (x + b) ∧ r1 = ((0 : Int32) + (1 : Int32)) ∧ r2 = (mm_is tr (0 : Int32) (1 : Int32)))) := by
  refine wp_of (uf_X9_foldsAs _ _ _ _ _ _ _) ?_
  refine wp_of (uf_X9_foldsAso _ _ _ _ _ _ _) ?_
  refine wp_ifn (by decide) ?_
  refine wp_ifn (by decide) ?_
  refine wp_in2 ?_
  refine wp_of (uf_X9_begins _ _ _ _) ?_
  refine wp_ifn (by decide) ?_
  refine wp_ck (i_inb (by decide) (by rw [show ((0 : Int32)).toInt = 0 from by decide]; (try simp only [is_len]); omega)) ?_
  refine wp_nm (fun y1 h1 => ?_)
  subst h1
  refine wp_of (uf_X9_begins_19 _ _ _) ?_
  refine wp_nm (fun y2 h2 => ?_)
  subst h2
  refine wp_so2 ?_
  show wp _ _
  exact wp_so3 ⟨rfl, rfl, rfl⟩

set_option maxRecDepth 20000 in
theorem ac9_4_1 (x b : Int32) (tr : List Int32) (hl : tr.length = 24) : wp (fX9_laysAs 700 5 (4 : Int32) x (0 : Int32) (4 : Int32) b tr) (cu3 (fun r0 r1 r2 => r0 = ((x + b) * (2 : Int32)) ∧ r1 = (((0 : Int32) + (1 : Int32)) + (1 : Int32)) ∧ r2 = (mm_is (mm_is tr (0 : Int32) (10 : Int32)) ((0 : Int32) + (1 : Int32)) (1 : Int32)))) := by
  refine wp_of (uf_X9_laysAs _ _ _ _ _ _ _ _) ?_
  refine wp_of (uf_X9_laysAso _ _ _ _ _ _ _ _) ?_
  refine wp_ifn (by decide) ?_
  refine wp_ifn (by decide) ?_
  refine wp_ifn (by decide) ?_
  refine wp_ifn (by decide) ?_
  refine wp_in2 ?_
  refine wp_of (uf_X9_begins _ _ _ _) ?_
  refine wp_ifn (by decide) ?_
  refine wp_ck (i_inb (by decide) (by rw [show ((0 : Int32)).toInt = 0 from by decide]; (try simp only [is_len]); omega)) ?_
  refine wp_nm (fun y1 h1 => ?_)
  subst h1
  refine wp_of (uf_X9_begins_19 _ _ _) ?_
  refine wp_nm (fun y2 h2 => ?_)
  subst h2
  refine wp_so2 ?_
  show wp _ _
  refine wp_in3 ?_
  refine wp_of (uf_X9_foldsAs _ _ _ _ _ _ _) ?_
  refine wp_of (uf_X9_foldsAso _ _ _ _ _ _ _) ?_
  refine wp_ifn (by decide) ?_
  refine wp_ifn (by decide) ?_
  refine wp_in2 ?_
  refine wp_of (uf_X9_begins _ _ _ _) ?_
  refine wp_ifn (by decide) ?_
  refine wp_ck (i_inb (by decide) (by rw [show (((0 : Int32) + (1 : Int32))).toInt = 1 from by decide]; (try simp only [is_len]); omega)) ?_
  refine wp_nm (fun y3 h3 => ?_)
  subst h3
  refine wp_of (uf_X9_begins_19 _ _ _) ?_
  refine wp_nm (fun y4 h4 => ?_)
  subst h4
  refine wp_so2 ?_
  show wp _ _
  refine wp_so3 ?_
  show wp _ _
  exact wp_so3 ⟨rfl, rfl, rfl⟩

set_option maxRecDepth 20000 in
theorem ac9_4_2 (x b : Int32) (tr : List Int32) (hl : tr.length = 24) : wp (fX9_wearsAs 700 4 (4 : Int32) x (0 : Int32) (4 : Int32) b tr) (cu3 (fun r0 r1 r2 => r0 = ((x ^^^ b) - ((2 : Int32) + b)) ∧ r1 = ((((0 : Int32) + (1 : Int32)) + (1 : Int32)) + (1 : Int32)) ∧ r2 = (mm_is (mm_is (mm_is tr (0 : Int32) (50 : Int32)) ((0 : Int32) + (1 : Int32)) (11 : Int32)) (((0 : Int32) + (1 : Int32)) + (1 : Int32)) (1 : Int32)))) := by
  refine wp_of (uf_X9_wearsAs _ _ _ _ _ _ _ _) ?_
  refine wp_of (uf_X9_wearsAso _ _ _ _ _ _ _ _) ?_
  refine wp_ifn (by decide) ?_
  refine wp_ifn (by decide) ?_
  refine wp_ifp (by decide) ?_
  refine wp_of (uf_X9_wearsAs_36 _ _ _ _ _ _ _) ?_
  refine wp_in2 ?_
  refine wp_of (uf_X9_begins _ _ _ _) ?_
  refine wp_ifn (by decide) ?_
  refine wp_ck (i_inb (by decide) (by rw [show ((0 : Int32)).toInt = 0 from by decide]; (try simp only [is_len]); omega)) ?_
  refine wp_nm (fun y1 h1 => ?_)
  subst h1
  refine wp_of (uf_X9_begins_19 _ _ _) ?_
  refine wp_nm (fun y2 h2 => ?_)
  subst h2
  refine wp_so2 ?_
  show wp _ _
  refine wp_in3 ?_
  refine wp_of (uf_X9_wearsAs _ _ _ _ _ _ _ _) ?_
  refine wp_of (uf_X9_wearsAso _ _ _ _ _ _ _ _) ?_
  refine wp_ifn (by decide) ?_
  refine wp_ifn (by decide) ?_
  refine wp_ifn (by decide) ?_
  refine wp_ifn (by decide) ?_
  refine wp_in2 ?_
  refine wp_of (uf_X9_begins _ _ _ _) ?_
  refine wp_ifn (by decide) ?_
  refine wp_ck (i_inb (by decide) (by rw [show (((0 : Int32) + (1 : Int32))).toInt = 1 from by decide]; (try simp only [is_len]); omega)) ?_
  refine wp_nm (fun y3 h3 => ?_)
  subst h3
  refine wp_of (uf_X9_begins_19 _ _ _) ?_
  refine wp_nm (fun y4 h4 => ?_)
  subst h4
  refine wp_so2 ?_
  show wp _ _
  refine wp_so3 ?_
  show wp _ _
  refine wp_in3 ?_
  refine wp_of (uf_X9_foldsAs _ _ _ _ _ _ _) ?_
  refine wp_of (uf_X9_foldsAso _ _ _ _ _ _ _) ?_
  refine wp_ifn (by decide) ?_
  refine wp_ifn (by decide) ?_
  refine wp_in2 ?_
  refine wp_of (uf_X9_begins _ _ _ _) ?_
  refine wp_ifn (by decide) ?_
  refine wp_ck (i_inb (by decide) (by rw [show ((((0 : Int32) + (1 : Int32)) + (1 : Int32))).toInt = 2 from by decide]; (try simp only [is_len]); omega)) ?_
  refine wp_nm (fun y5 h5 => ?_)
  subst h5
  refine wp_of (uf_X9_begins_19 _ _ _) ?_
  refine wp_nm (fun y6 h6 => ?_)
  subst h6
  refine wp_so2 ?_
  show wp _ _
  refine wp_so3 ?_
  show wp _ _
  exact wp_so3 ⟨rfl, rfl, rfl⟩

set_option maxRecDepth 20000 in
theorem ac9_4_3 (x b : Int32) (tr : List Int32) (hl : tr.length = 24) : wp (fX9_tellsAs 700 4 (4 : Int32) x (0 : Int32) (4 : Int32) b tr) (cu3 (fun r0 r1 r2 => r0 = (((x + b) * (2 : Int32)) - (((1 : Int32) ^^^ b) - ((2 : Int32) + b))) ∧ r1 = (((((((0 : Int32) + (1 : Int32)) + (1 : Int32)) + (1 : Int32)) + (1 : Int32)) + (1 : Int32)) + (1 : Int32)) ∧ r2 = (mm_is (mm_is (mm_is (mm_is (mm_is (mm_is tr (0 : Int32) (2 : Int32)) ((0 : Int32) + (1 : Int32)) (10 : Int32)) (((0 : Int32) + (1 : Int32)) + (1 : Int32)) (1 : Int32)) ((((0 : Int32) + (1 : Int32)) + (1 : Int32)) + (1 : Int32)) (50 : Int32)) (((((0 : Int32) + (1 : Int32)) + (1 : Int32)) + (1 : Int32)) + (1 : Int32)) (11 : Int32)) ((((((0 : Int32) + (1 : Int32)) + (1 : Int32)) + (1 : Int32)) + (1 : Int32)) + (1 : Int32)) (1 : Int32)))) := by
  refine wp_of (uf_X9_tellsAs _ _ _ _ _ _ _ _) ?_
  refine wp_of (uf_X9_tellsAso _ _ _ _ _ _ _ _) ?_
  refine wp_ifn (by decide) ?_
  refine wp_ifn (by decide) ?_
  refine wp_in2 ?_
  refine wp_of (uf_X9_begins _ _ _ _) ?_
  refine wp_ifn (by decide) ?_
  refine wp_ck (i_inb (by decide) (by rw [show ((0 : Int32)).toInt = 0 from by decide]; (try simp only [is_len]); omega)) ?_
  refine wp_nm (fun y1 h1 => ?_)
  subst h1
  refine wp_of (uf_X9_begins_19 _ _ _) ?_
  refine wp_nm (fun y2 h2 => ?_)
  subst h2
  refine wp_so2 ?_
  show wp _ _
  refine wp_in3 ?_
  refine wp_of (uf_X9_laysAs _ _ _ _ _ _ _ _) ?_
  refine wp_of (uf_X9_laysAso _ _ _ _ _ _ _ _) ?_
  refine wp_ifn (by decide) ?_
  refine wp_ifn (by decide) ?_
  refine wp_ifn (by decide) ?_
  refine wp_ifn (by decide) ?_
  refine wp_in2 ?_
  refine wp_of (uf_X9_begins _ _ _ _) ?_
  refine wp_ifn (by decide) ?_
  refine wp_ck (i_inb (by decide) (by rw [show (((0 : Int32) + (1 : Int32))).toInt = 1 from by decide]; (try simp only [is_len]); omega)) ?_
  refine wp_nm (fun y3 h3 => ?_)
  subst h3
  refine wp_of (uf_X9_begins_19 _ _ _) ?_
  refine wp_nm (fun y4 h4 => ?_)
  subst h4
  refine wp_so2 ?_
  show wp _ _
  refine wp_in3 ?_
  refine wp_of (uf_X9_foldsAs _ _ _ _ _ _ _) ?_
  refine wp_of (uf_X9_foldsAso _ _ _ _ _ _ _) ?_
  refine wp_ifn (by decide) ?_
  refine wp_ifn (by decide) ?_
  refine wp_in2 ?_
  refine wp_of (uf_X9_begins _ _ _ _) ?_
  refine wp_ifn (by decide) ?_
  refine wp_ck (i_inb (by decide) (by rw [show ((((0 : Int32) + (1 : Int32)) + (1 : Int32))).toInt = 2 from by decide]; (try simp only [is_len]); omega)) ?_
  refine wp_nm (fun y5 h5 => ?_)
  subst h5
  refine wp_of (uf_X9_begins_19 _ _ _) ?_
  refine wp_nm (fun y6 h6 => ?_)
  subst h6
  refine wp_so2 ?_
  show wp _ _
  refine wp_so3 ?_
  show wp _ _
  refine wp_so3 ?_
  show wp _ _
  refine wp_in3 ?_
  refine wp_of (uf_X9_wearsAs _ _ _ _ _ _ _ _) ?_
  refine wp_of (uf_X9_wearsAso _ _ _ _ _ _ _ _) ?_
  refine wp_ifn (by decide) ?_
  refine wp_ifn (by decide) ?_
  refine wp_ifp (by decide) ?_
  refine wp_of (uf_X9_wearsAs_36 _ _ _ _ _ _ _) ?_
  refine wp_in2 ?_
  refine wp_of (uf_X9_begins _ _ _ _) ?_
  refine wp_ifn (by decide) ?_
  refine wp_ck (i_inb (by decide) (by rw [show (((((0 : Int32) + (1 : Int32)) + (1 : Int32)) + (1 : Int32))).toInt = 3 from by decide]; (try simp only [is_len]); omega)) ?_
  refine wp_nm (fun y7 h7 => ?_)
  subst h7
  refine wp_of (uf_X9_begins_19 _ _ _) ?_
  refine wp_nm (fun y8 h8 => ?_)
  subst h8
  refine wp_so2 ?_
  show wp _ _
  refine wp_in3 ?_
  refine wp_of (uf_X9_wearsAs _ _ _ _ _ _ _ _) ?_
  refine wp_of (uf_X9_wearsAso _ _ _ _ _ _ _ _) ?_
  refine wp_ifn (by decide) ?_
  refine wp_ifn (by decide) ?_
  refine wp_ifn (by decide) ?_
  refine wp_ifn (by decide) ?_
  refine wp_in2 ?_
  refine wp_of (uf_X9_begins _ _ _ _) ?_
  refine wp_ifn (by decide) ?_
  refine wp_ck (i_inb (by decide) (by rw [show ((((((0 : Int32) + (1 : Int32)) + (1 : Int32)) + (1 : Int32)) + (1 : Int32))).toInt = 4 from by decide]; (try simp only [is_len]); omega)) ?_
  refine wp_nm (fun y9 h9 => ?_)
  subst h9
  refine wp_of (uf_X9_begins_19 _ _ _) ?_
  refine wp_nm (fun y10 h10 => ?_)
  subst h10
  refine wp_so2 ?_
  show wp _ _
  refine wp_so3 ?_
  show wp _ _
  refine wp_in3 ?_
  refine wp_of (uf_X9_foldsAs _ _ _ _ _ _ _) ?_
  refine wp_of (uf_X9_foldsAso _ _ _ _ _ _ _) ?_
  refine wp_ifn (by decide) ?_
  refine wp_ifn (by decide) ?_
  refine wp_in2 ?_
  refine wp_of (uf_X9_begins _ _ _ _) ?_
  refine wp_ifn (by decide) ?_
  refine wp_ck (i_inb (by decide) (by rw [show (((((((0 : Int32) + (1 : Int32)) + (1 : Int32)) + (1 : Int32)) + (1 : Int32)) + (1 : Int32))).toInt = 5 from by decide]; (try simp only [is_len]); omega)) ?_
  refine wp_nm (fun y11 h11 => ?_)
  subst h11
  refine wp_of (uf_X9_begins_19 _ _ _) ?_
  refine wp_nm (fun y12 h12 => ?_)
  subst h12
  refine wp_so2 ?_
  show wp _ _
  refine wp_so3 ?_
  show wp _ _
  refine wp_so3 ?_
  show wp _ _
  exact wp_so3 ⟨rfl, rfl, rfl⟩

set_option maxRecDepth 20000 in
theorem ac9_5_0 (x b : Int32) (tr : List Int32) (hl : tr.length = 24) : wp (fX9_foldsAs 700 4 (5 : Int32) x (0 : Int32) b tr) (cu3 (fun r0 r1 r2 => r0 = (x + b) ∧ r1 = ((0 : Int32) + (1 : Int32)) ∧ r2 = (mm_is tr (0 : Int32) (1 : Int32)))) := by
  refine wp_of (uf_X9_foldsAs _ _ _ _ _ _ _) ?_
  refine wp_of (uf_X9_foldsAso _ _ _ _ _ _ _) ?_
  refine wp_ifn (by decide) ?_
  refine wp_ifn (by decide) ?_
  refine wp_in2 ?_
  refine wp_of (uf_X9_begins _ _ _ _) ?_
  refine wp_ifn (by decide) ?_
  refine wp_ck (i_inb (by decide) (by rw [show ((0 : Int32)).toInt = 0 from by decide]; (try simp only [is_len]); omega)) ?_
  refine wp_nm (fun y1 h1 => ?_)
  subst h1
  refine wp_of (uf_X9_begins_19 _ _ _) ?_
  refine wp_nm (fun y2 h2 => ?_)
  subst h2
  refine wp_so2 ?_
  show wp _ _
  exact wp_so3 ⟨rfl, rfl, rfl⟩

set_option maxRecDepth 20000 in
theorem ac9_5_1 (x b : Int32) (tr : List Int32) (hl : tr.length = 24) : wp (fX9_laysAs 700 5 (5 : Int32) x (0 : Int32) (5 : Int32) b tr) (cu3 (fun r0 r1 r2 => r0 = (-(((x + (1 : Int32)) + b) * (2 : Int32))) ∧ r1 = (((((0 : Int32) + (1 : Int32)) + (1 : Int32)) + (1 : Int32)) + (1 : Int32)) ∧ r2 = (mm_is (mm_is (mm_is (mm_is tr (0 : Int32) (41 : Int32)) ((0 : Int32) + (1 : Int32)) (30 : Int32)) (((0 : Int32) + (1 : Int32)) + (1 : Int32)) (10 : Int32)) ((((0 : Int32) + (1 : Int32)) + (1 : Int32)) + (1 : Int32)) (1 : Int32)))) := by
  refine wp_of (uf_X9_laysAs _ _ _ _ _ _ _ _) ?_
  refine wp_of (uf_X9_laysAso _ _ _ _ _ _ _ _) ?_
  refine wp_ifn (by decide) ?_
  refine wp_ifp (by decide) ?_
  refine wp_of (uf_X9_laysAs_10 _ _ _ _ _ _ _) ?_
  refine wp_in2 ?_
  refine wp_of (uf_X9_begins _ _ _ _) ?_
  refine wp_ifn (by decide) ?_
  refine wp_ck (i_inb (by decide) (by rw [show ((0 : Int32)).toInt = 0 from by decide]; (try simp only [is_len]); omega)) ?_
  refine wp_nm (fun y1 h1 => ?_)
  subst h1
  refine wp_of (uf_X9_begins_19 _ _ _) ?_
  refine wp_nm (fun y2 h2 => ?_)
  subst h2
  refine wp_so2 ?_
  show wp _ _
  refine wp_in3 ?_
  refine wp_of (uf_X9_laysAs _ _ _ _ _ _ _ _) ?_
  refine wp_of (uf_X9_laysAso _ _ _ _ _ _ _ _) ?_
  refine wp_ifn (by decide) ?_
  refine wp_ifn (by decide) ?_
  refine wp_ifp (by decide) ?_
  refine wp_in2 ?_
  refine wp_of (uf_X9_begins _ _ _ _) ?_
  refine wp_ifn (by decide) ?_
  refine wp_ck (i_inb (by decide) (by rw [show (((0 : Int32) + (1 : Int32))).toInt = 1 from by decide]; (try simp only [is_len]); omega)) ?_
  refine wp_nm (fun y3 h3 => ?_)
  subst h3
  refine wp_of (uf_X9_begins_19 _ _ _) ?_
  refine wp_nm (fun y4 h4 => ?_)
  subst h4
  refine wp_so2 ?_
  show wp _ _
  refine wp_in3 ?_
  refine wp_of (uf_X9_laysAs _ _ _ _ _ _ _ _) ?_
  refine wp_of (uf_X9_laysAso _ _ _ _ _ _ _ _) ?_
  refine wp_ifn (by decide) ?_
  refine wp_ifn (by decide) ?_
  refine wp_ifn (by decide) ?_
  refine wp_ifn (by decide) ?_
  refine wp_in2 ?_
  refine wp_of (uf_X9_begins _ _ _ _) ?_
  refine wp_ifn (by decide) ?_
  refine wp_ck (i_inb (by decide) (by rw [show ((((0 : Int32) + (1 : Int32)) + (1 : Int32))).toInt = 2 from by decide]; (try simp only [is_len]); omega)) ?_
  refine wp_nm (fun y5 h5 => ?_)
  subst h5
  refine wp_of (uf_X9_begins_19 _ _ _) ?_
  refine wp_nm (fun y6 h6 => ?_)
  subst h6
  refine wp_so2 ?_
  show wp _ _
  refine wp_in3 ?_
  refine wp_of (uf_X9_foldsAs _ _ _ _ _ _ _) ?_
  refine wp_of (uf_X9_foldsAso _ _ _ _ _ _ _) ?_
  refine wp_ifn (by decide) ?_
  refine wp_ifn (by decide) ?_
  refine wp_in2 ?_
  refine wp_of (uf_X9_begins _ _ _ _) ?_
  refine wp_ifn (by decide) ?_
  refine wp_ck (i_inb (by decide) (by rw [show (((((0 : Int32) + (1 : Int32)) + (1 : Int32)) + (1 : Int32))).toInt = 3 from by decide]; (try simp only [is_len]); omega)) ?_
  refine wp_nm (fun y7 h7 => ?_)
  subst h7
  refine wp_of (uf_X9_begins_19 _ _ _) ?_
  refine wp_nm (fun y8 h8 => ?_)
  subst h8
  refine wp_so2 ?_
  show wp _ _
  refine wp_so3 ?_
  show wp _ _
  refine wp_so3 ?_
  show wp _ _
  refine wp_so3 ?_
  show wp _ _
  exact wp_so3 ⟨rfl, rfl, rfl⟩

set_option maxRecDepth 20000 in
theorem ac9_5_2 (x b : Int32) (tr : List Int32) (hl : tr.length = 24) : wp (fX9_wearsAs 700 4 (5 : Int32) x (0 : Int32) (5 : Int32) b tr) (cu3 (fun r0 r1 r2 => r0 = ((x ^^^ b) * (3 : Int32)) ∧ r1 = (((0 : Int32) + (1 : Int32)) + (1 : Int32)) ∧ r2 = (mm_is (mm_is tr (0 : Int32) (40 : Int32)) ((0 : Int32) + (1 : Int32)) (11 : Int32)))) := by
  refine wp_of (uf_X9_wearsAs _ _ _ _ _ _ _ _) ?_
  refine wp_of (uf_X9_wearsAso _ _ _ _ _ _ _ _) ?_
  refine wp_ifn (by decide) ?_
  refine wp_ifp (by decide) ?_
  refine wp_of (uf_X9_wearsAs_10 _ _ _ _ _ _ _) ?_
  refine wp_in2 ?_
  refine wp_of (uf_X9_begins _ _ _ _) ?_
  refine wp_ifn (by decide) ?_
  refine wp_ck (i_inb (by decide) (by rw [show ((0 : Int32)).toInt = 0 from by decide]; (try simp only [is_len]); omega)) ?_
  refine wp_nm (fun y1 h1 => ?_)
  subst h1
  refine wp_of (uf_X9_begins_19 _ _ _) ?_
  refine wp_nm (fun y2 h2 => ?_)
  subst h2
  refine wp_so2 ?_
  show wp _ _
  refine wp_in3 ?_
  refine wp_of (uf_X9_wearsAs _ _ _ _ _ _ _ _) ?_
  refine wp_of (uf_X9_wearsAso _ _ _ _ _ _ _ _) ?_
  refine wp_ifn (by decide) ?_
  refine wp_ifn (by decide) ?_
  refine wp_ifn (by decide) ?_
  refine wp_ifn (by decide) ?_
  refine wp_in2 ?_
  refine wp_of (uf_X9_begins _ _ _ _) ?_
  refine wp_ifn (by decide) ?_
  refine wp_ck (i_inb (by decide) (by rw [show (((0 : Int32) + (1 : Int32))).toInt = 1 from by decide]; (try simp only [is_len]); omega)) ?_
  refine wp_nm (fun y3 h3 => ?_)
  subst h3
  refine wp_of (uf_X9_begins_19 _ _ _) ?_
  refine wp_nm (fun y4 h4 => ?_)
  subst h4
  refine wp_so2 ?_
  show wp _ _
  refine wp_so3 ?_
  show wp _ _
  exact wp_so3 ⟨rfl, rfl, rfl⟩

set_option maxRecDepth 20000 in
theorem ac9_5_3 (x b : Int32) (tr : List Int32) (hl : tr.length = 24) : wp (fX9_tellsAs 700 4 (5 : Int32) x (0 : Int32) (5 : Int32) b tr) (cu3 (fun r0 r1 r2 => r0 = (((-(((x + (1 : Int32)) + b) * (2 : Int32))) - (((1 : Int32) ^^^ b) * (3 : Int32))) ^^^ (5 : Int32)) ∧ r1 = (((((((((0 : Int32) + (1 : Int32)) + (1 : Int32)) + (1 : Int32)) + (1 : Int32)) + (1 : Int32)) + (1 : Int32)) + (1 : Int32)) + (1 : Int32)) ∧ r2 = (mm_is (mm_is (mm_is (mm_is (mm_is (mm_is (mm_is (mm_is tr (0 : Int32) (60 : Int32)) ((0 : Int32) + (1 : Int32)) (2 : Int32)) (((0 : Int32) + (1 : Int32)) + (1 : Int32)) (41 : Int32)) ((((0 : Int32) + (1 : Int32)) + (1 : Int32)) + (1 : Int32)) (30 : Int32)) (((((0 : Int32) + (1 : Int32)) + (1 : Int32)) + (1 : Int32)) + (1 : Int32)) (10 : Int32)) ((((((0 : Int32) + (1 : Int32)) + (1 : Int32)) + (1 : Int32)) + (1 : Int32)) + (1 : Int32)) (1 : Int32)) (((((((0 : Int32) + (1 : Int32)) + (1 : Int32)) + (1 : Int32)) + (1 : Int32)) + (1 : Int32)) + (1 : Int32)) (40 : Int32)) ((((((((0 : Int32) + (1 : Int32)) + (1 : Int32)) + (1 : Int32)) + (1 : Int32)) + (1 : Int32)) + (1 : Int32)) + (1 : Int32)) (11 : Int32)))) := by
  refine wp_of (uf_X9_tellsAs _ _ _ _ _ _ _ _) ?_
  refine wp_of (uf_X9_tellsAso _ _ _ _ _ _ _ _) ?_
  refine wp_ifp (by decide) ?_
  refine wp_in2 ?_
  refine wp_of (uf_X9_begins _ _ _ _) ?_
  refine wp_ifn (by decide) ?_
  refine wp_ck (i_inb (by decide) (by rw [show ((0 : Int32)).toInt = 0 from by decide]; (try simp only [is_len]); omega)) ?_
  refine wp_nm (fun y1 h1 => ?_)
  subst h1
  refine wp_of (uf_X9_begins_19 _ _ _) ?_
  refine wp_nm (fun y2 h2 => ?_)
  subst h2
  refine wp_so2 ?_
  show wp _ _
  refine wp_in3 ?_
  refine wp_of (uf_X9_tellsAs _ _ _ _ _ _ _ _) ?_
  refine wp_of (uf_X9_tellsAso _ _ _ _ _ _ _ _) ?_
  refine wp_ifn (by decide) ?_
  refine wp_ifn (by decide) ?_
  refine wp_in2 ?_
  refine wp_of (uf_X9_begins _ _ _ _) ?_
  refine wp_ifn (by decide) ?_
  refine wp_ck (i_inb (by decide) (by rw [show (((0 : Int32) + (1 : Int32))).toInt = 1 from by decide]; (try simp only [is_len]); omega)) ?_
  refine wp_nm (fun y3 h3 => ?_)
  subst h3
  refine wp_of (uf_X9_begins_19 _ _ _) ?_
  refine wp_nm (fun y4 h4 => ?_)
  subst h4
  refine wp_so2 ?_
  show wp _ _
  refine wp_in3 ?_
  refine wp_of (uf_X9_laysAs _ _ _ _ _ _ _ _) ?_
  refine wp_of (uf_X9_laysAso _ _ _ _ _ _ _ _) ?_
  refine wp_ifn (by decide) ?_
  refine wp_ifp (by decide) ?_
  refine wp_of (uf_X9_laysAs_10 _ _ _ _ _ _ _) ?_
  refine wp_in2 ?_
  refine wp_of (uf_X9_begins _ _ _ _) ?_
  refine wp_ifn (by decide) ?_
  refine wp_ck (i_inb (by decide) (by rw [show ((((0 : Int32) + (1 : Int32)) + (1 : Int32))).toInt = 2 from by decide]; (try simp only [is_len]); omega)) ?_
  refine wp_nm (fun y5 h5 => ?_)
  subst h5
  refine wp_of (uf_X9_begins_19 _ _ _) ?_
  refine wp_nm (fun y6 h6 => ?_)
  subst h6
  refine wp_so2 ?_
  show wp _ _
  refine wp_in3 ?_
  refine wp_of (uf_X9_laysAs _ _ _ _ _ _ _ _) ?_
  refine wp_of (uf_X9_laysAso _ _ _ _ _ _ _ _) ?_
  refine wp_ifn (by decide) ?_
  refine wp_ifn (by decide) ?_
  refine wp_ifp (by decide) ?_
  refine wp_in2 ?_
  refine wp_of (uf_X9_begins _ _ _ _) ?_
  refine wp_ifn (by decide) ?_
  refine wp_ck (i_inb (by decide) (by rw [show (((((0 : Int32) + (1 : Int32)) + (1 : Int32)) + (1 : Int32))).toInt = 3 from by decide]; (try simp only [is_len]); omega)) ?_
  refine wp_nm (fun y7 h7 => ?_)
  subst h7
  refine wp_of (uf_X9_begins_19 _ _ _) ?_
  refine wp_nm (fun y8 h8 => ?_)
  subst h8
  refine wp_so2 ?_
  show wp _ _
  refine wp_in3 ?_
  refine wp_of (uf_X9_laysAs _ _ _ _ _ _ _ _) ?_
  refine wp_of (uf_X9_laysAso _ _ _ _ _ _ _ _) ?_
  refine wp_ifn (by decide) ?_
  refine wp_ifn (by decide) ?_
  refine wp_ifn (by decide) ?_
  refine wp_ifn (by decide) ?_
  refine wp_in2 ?_
  refine wp_of (uf_X9_begins _ _ _ _) ?_
  refine wp_ifn (by decide) ?_
  refine wp_ck (i_inb (by decide) (by rw [show ((((((0 : Int32) + (1 : Int32)) + (1 : Int32)) + (1 : Int32)) + (1 : Int32))).toInt = 4 from by decide]; (try simp only [is_len]); omega)) ?_
  refine wp_nm (fun y9 h9 => ?_)
  subst h9
  refine wp_of (uf_X9_begins_19 _ _ _) ?_
  refine wp_nm (fun y10 h10 => ?_)
  subst h10
  refine wp_so2 ?_
  show wp _ _
  refine wp_in3 ?_
  refine wp_of (uf_X9_foldsAs _ _ _ _ _ _ _) ?_
  refine wp_of (uf_X9_foldsAso _ _ _ _ _ _ _) ?_
  refine wp_ifn (by decide) ?_
  refine wp_ifn (by decide) ?_
  refine wp_in2 ?_
  refine wp_of (uf_X9_begins _ _ _ _) ?_
  refine wp_ifn (by decide) ?_
  refine wp_ck (i_inb (by decide) (by rw [show (((((((0 : Int32) + (1 : Int32)) + (1 : Int32)) + (1 : Int32)) + (1 : Int32)) + (1 : Int32))).toInt = 5 from by decide]; (try simp only [is_len]); omega)) ?_
  refine wp_nm (fun y11 h11 => ?_)
  subst h11
  refine wp_of (uf_X9_begins_19 _ _ _) ?_
  refine wp_nm (fun y12 h12 => ?_)
  subst h12
  refine wp_so2 ?_
  show wp _ _
  refine wp_so3 ?_
  show wp _ _
  refine wp_so3 ?_
  show wp _ _
  refine wp_so3 ?_
  show wp _ _
  refine wp_so3 ?_
  show wp _ _
  refine wp_in3 ?_
  refine wp_of (uf_X9_wearsAs _ _ _ _ _ _ _ _) ?_
  refine wp_of (uf_X9_wearsAso _ _ _ _ _ _ _ _) ?_
  refine wp_ifn (by decide) ?_
  refine wp_ifp (by decide) ?_
  refine wp_of (uf_X9_wearsAs_10 _ _ _ _ _ _ _) ?_
  refine wp_in2 ?_
  refine wp_of (uf_X9_begins _ _ _ _) ?_
  refine wp_ifn (by decide) ?_
  refine wp_ck (i_inb (by decide) (by rw [show ((((((((0 : Int32) + (1 : Int32)) + (1 : Int32)) + (1 : Int32)) + (1 : Int32)) + (1 : Int32)) + (1 : Int32))).toInt = 6 from by decide]; (try simp only [is_len]); omega)) ?_
  refine wp_nm (fun y13 h13 => ?_)
  subst h13
  refine wp_of (uf_X9_begins_19 _ _ _) ?_
  refine wp_nm (fun y14 h14 => ?_)
  subst h14
  refine wp_so2 ?_
  show wp _ _
  refine wp_in3 ?_
  refine wp_of (uf_X9_wearsAs _ _ _ _ _ _ _ _) ?_
  refine wp_of (uf_X9_wearsAso _ _ _ _ _ _ _ _) ?_
  refine wp_ifn (by decide) ?_
  refine wp_ifn (by decide) ?_
  refine wp_ifn (by decide) ?_
  refine wp_ifn (by decide) ?_
  refine wp_in2 ?_
  refine wp_of (uf_X9_begins _ _ _ _) ?_
  refine wp_ifn (by decide) ?_
  refine wp_ck (i_inb (by decide) (by rw [show (((((((((0 : Int32) + (1 : Int32)) + (1 : Int32)) + (1 : Int32)) + (1 : Int32)) + (1 : Int32)) + (1 : Int32)) + (1 : Int32))).toInt = 7 from by decide]; (try simp only [is_len]); omega)) ?_
  refine wp_nm (fun y15 h15 => ?_)
  subst h15
  refine wp_of (uf_X9_begins_19 _ _ _) ?_
  refine wp_nm (fun y16 h16 => ?_)
  subst h16
  refine wp_so2 ?_
  show wp _ _
  refine wp_so3 ?_
  show wp _ _
  refine wp_so3 ?_
  show wp _ _
  refine wp_so3 ?_
  show wp _ _
  exact wp_so3 ⟨rfl, rfl, rfl⟩

set_option maxRecDepth 20000 in
theorem ac9_6_0 (x b : Int32) (tr : List Int32) (hl : tr.length = 24) : wp (fX9_foldsAs 700 4 (6 : Int32) x (0 : Int32) b tr) (cu3 (fun r0 r1 r2 => r0 = (((x + b) + (3 : Int32)) * (2 : Int32)) ∧ r1 = ((((0 : Int32) + (1 : Int32)) + (1 : Int32)) + (1 : Int32)) ∧ r2 = (mm_is (mm_is (mm_is tr (0 : Int32) (70 : Int32)) ((0 : Int32) + (1 : Int32)) (20 : Int32)) (((0 : Int32) + (1 : Int32)) + (1 : Int32)) (1 : Int32)))) := by
  refine wp_of (uf_X9_foldsAs _ _ _ _ _ _ _) ?_
  refine wp_of (uf_X9_foldsAso _ _ _ _ _ _ _) ?_
  refine wp_ifp (by decide) ?_
  refine wp_in2 ?_
  refine wp_of (uf_X9_begins _ _ _ _) ?_
  refine wp_ifn (by decide) ?_
  refine wp_ck (i_inb (by decide) (by rw [show ((0 : Int32)).toInt = 0 from by decide]; (try simp only [is_len]); omega)) ?_
  refine wp_nm (fun y1 h1 => ?_)
  subst h1
  refine wp_of (uf_X9_begins_19 _ _ _) ?_
  refine wp_nm (fun y2 h2 => ?_)
  subst h2
  refine wp_so2 ?_
  show wp _ _
  refine wp_in3 ?_
  refine wp_of (uf_X9_foldsAs _ _ _ _ _ _ _) ?_
  refine wp_of (uf_X9_foldsAso _ _ _ _ _ _ _) ?_
  refine wp_ifn (by decide) ?_
  refine wp_ifp (by decide) ?_
  refine wp_in2 ?_
  refine wp_of (uf_X9_begins _ _ _ _) ?_
  refine wp_ifn (by decide) ?_
  refine wp_ck (i_inb (by decide) (by rw [show (((0 : Int32) + (1 : Int32))).toInt = 1 from by decide]; (try simp only [is_len]); omega)) ?_
  refine wp_nm (fun y3 h3 => ?_)
  subst h3
  refine wp_of (uf_X9_begins_19 _ _ _) ?_
  refine wp_nm (fun y4 h4 => ?_)
  subst h4
  refine wp_so2 ?_
  show wp _ _
  refine wp_in3 ?_
  refine wp_of (uf_X9_foldsAs _ _ _ _ _ _ _) ?_
  refine wp_of (uf_X9_foldsAso _ _ _ _ _ _ _) ?_
  refine wp_ifn (by decide) ?_
  refine wp_ifn (by decide) ?_
  refine wp_in2 ?_
  refine wp_of (uf_X9_begins _ _ _ _) ?_
  refine wp_ifn (by decide) ?_
  refine wp_ck (i_inb (by decide) (by rw [show ((((0 : Int32) + (1 : Int32)) + (1 : Int32))).toInt = 2 from by decide]; (try simp only [is_len]); omega)) ?_
  refine wp_nm (fun y5 h5 => ?_)
  subst h5
  refine wp_of (uf_X9_begins_19 _ _ _) ?_
  refine wp_nm (fun y6 h6 => ?_)
  subst h6
  refine wp_so2 ?_
  show wp _ _
  refine wp_so3 ?_
  show wp _ _
  refine wp_so3 ?_
  show wp _ _
  exact wp_so3 ⟨rfl, rfl, rfl⟩

set_option maxRecDepth 20000 in
theorem ac9_6_1 (x b : Int32) (tr : List Int32) (hl : tr.length = 24) : wp (fX9_laysAs 700 5 (6 : Int32) x (0 : Int32) (6 : Int32) b tr) (cu3 (fun r0 r1 r2 => r0 = ((((x + b) + (3 : Int32)) * (2 : Int32)) * (2 : Int32)) ∧ r1 = (((((0 : Int32) + (1 : Int32)) + (1 : Int32)) + (1 : Int32)) + (1 : Int32)) ∧ r2 = (mm_is (mm_is (mm_is (mm_is tr (0 : Int32) (10 : Int32)) ((0 : Int32) + (1 : Int32)) (70 : Int32)) (((0 : Int32) + (1 : Int32)) + (1 : Int32)) (20 : Int32)) ((((0 : Int32) + (1 : Int32)) + (1 : Int32)) + (1 : Int32)) (1 : Int32)))) := by
  refine wp_of (uf_X9_laysAs _ _ _ _ _ _ _ _) ?_
  refine wp_of (uf_X9_laysAso _ _ _ _ _ _ _ _) ?_
  refine wp_ifn (by decide) ?_
  refine wp_ifn (by decide) ?_
  refine wp_ifn (by decide) ?_
  refine wp_ifn (by decide) ?_
  refine wp_in2 ?_
  refine wp_of (uf_X9_begins _ _ _ _) ?_
  refine wp_ifn (by decide) ?_
  refine wp_ck (i_inb (by decide) (by rw [show ((0 : Int32)).toInt = 0 from by decide]; (try simp only [is_len]); omega)) ?_
  refine wp_nm (fun y1 h1 => ?_)
  subst h1
  refine wp_of (uf_X9_begins_19 _ _ _) ?_
  refine wp_nm (fun y2 h2 => ?_)
  subst h2
  refine wp_so2 ?_
  show wp _ _
  refine wp_in3 ?_
  refine wp_of (uf_X9_foldsAs _ _ _ _ _ _ _) ?_
  refine wp_of (uf_X9_foldsAso _ _ _ _ _ _ _) ?_
  refine wp_ifp (by decide) ?_
  refine wp_in2 ?_
  refine wp_of (uf_X9_begins _ _ _ _) ?_
  refine wp_ifn (by decide) ?_
  refine wp_ck (i_inb (by decide) (by rw [show (((0 : Int32) + (1 : Int32))).toInt = 1 from by decide]; (try simp only [is_len]); omega)) ?_
  refine wp_nm (fun y3 h3 => ?_)
  subst h3
  refine wp_of (uf_X9_begins_19 _ _ _) ?_
  refine wp_nm (fun y4 h4 => ?_)
  subst h4
  refine wp_so2 ?_
  show wp _ _
  refine wp_in3 ?_
  refine wp_of (uf_X9_foldsAs _ _ _ _ _ _ _) ?_
  refine wp_of (uf_X9_foldsAso _ _ _ _ _ _ _) ?_
  refine wp_ifn (by decide) ?_
  refine wp_ifp (by decide) ?_
  refine wp_in2 ?_
  refine wp_of (uf_X9_begins _ _ _ _) ?_
  refine wp_ifn (by decide) ?_
  refine wp_ck (i_inb (by decide) (by rw [show ((((0 : Int32) + (1 : Int32)) + (1 : Int32))).toInt = 2 from by decide]; (try simp only [is_len]); omega)) ?_
  refine wp_nm (fun y5 h5 => ?_)
  subst h5
  refine wp_of (uf_X9_begins_19 _ _ _) ?_
  refine wp_nm (fun y6 h6 => ?_)
  subst h6
  refine wp_so2 ?_
  show wp _ _
  refine wp_in3 ?_
  refine wp_of (uf_X9_foldsAs _ _ _ _ _ _ _) ?_
  refine wp_of (uf_X9_foldsAso _ _ _ _ _ _ _) ?_
  refine wp_ifn (by decide) ?_
  refine wp_ifn (by decide) ?_
  refine wp_in2 ?_
  refine wp_of (uf_X9_begins _ _ _ _) ?_
  refine wp_ifn (by decide) ?_
  refine wp_ck (i_inb (by decide) (by rw [show (((((0 : Int32) + (1 : Int32)) + (1 : Int32)) + (1 : Int32))).toInt = 3 from by decide]; (try simp only [is_len]); omega)) ?_
  refine wp_nm (fun y7 h7 => ?_)
  subst h7
  refine wp_of (uf_X9_begins_19 _ _ _) ?_
  refine wp_nm (fun y8 h8 => ?_)
  subst h8
  refine wp_so2 ?_
  show wp _ _
  refine wp_so3 ?_
  show wp _ _
  refine wp_so3 ?_
  show wp _ _
  refine wp_so3 ?_
  show wp _ _
  exact wp_so3 ⟨rfl, rfl, rfl⟩

set_option maxRecDepth 20000 in
theorem ac9_6_2 (x b : Int32) (tr : List Int32) (hl : tr.length = 24) : wp (fX9_wearsAs 700 4 (6 : Int32) x (0 : Int32) (6 : Int32) b tr) (cu3 (fun r0 r1 r2 => r0 = (x ^^^ b) ∧ r1 = ((0 : Int32) + (1 : Int32)) ∧ r2 = (mm_is tr (0 : Int32) (11 : Int32)))) := by
  refine wp_of (uf_X9_wearsAs _ _ _ _ _ _ _ _) ?_
  refine wp_of (uf_X9_wearsAso _ _ _ _ _ _ _ _) ?_
  refine wp_ifn (by decide) ?_
  refine wp_ifn (by decide) ?_
  refine wp_ifn (by decide) ?_
  refine wp_ifn (by decide) ?_
  refine wp_in2 ?_
  refine wp_of (uf_X9_begins _ _ _ _) ?_
  refine wp_ifn (by decide) ?_
  refine wp_ck (i_inb (by decide) (by rw [show ((0 : Int32)).toInt = 0 from by decide]; (try simp only [is_len]); omega)) ?_
  refine wp_nm (fun y1 h1 => ?_)
  subst h1
  refine wp_of (uf_X9_begins_19 _ _ _) ?_
  refine wp_nm (fun y2 h2 => ?_)
  subst h2
  refine wp_so2 ?_
  show wp _ _
  exact wp_so3 ⟨rfl, rfl, rfl⟩

set_option maxRecDepth 20000 in
theorem ac9_6_3 (x b : Int32) (tr : List Int32) (hl : tr.length = 24) : wp (fX9_tellsAs 700 4 (6 : Int32) x (0 : Int32) (6 : Int32) b tr) (cu3 (fun r0 r1 r2 => r0 = (((((x + b) + (3 : Int32)) * (2 : Int32)) * (2 : Int32)) - ((1 : Int32) ^^^ b)) ∧ r1 = (((((((0 : Int32) + (1 : Int32)) + (1 : Int32)) + (1 : Int32)) + (1 : Int32)) + (1 : Int32)) + (1 : Int32)) ∧ r2 = (mm_is (mm_is (mm_is (mm_is (mm_is (mm_is tr (0 : Int32) (2 : Int32)) ((0 : Int32) + (1 : Int32)) (10 : Int32)) (((0 : Int32) + (1 : Int32)) + (1 : Int32)) (70 : Int32)) ((((0 : Int32) + (1 : Int32)) + (1 : Int32)) + (1 : Int32)) (20 : Int32)) (((((0 : Int32) + (1 : Int32)) + (1 : Int32)) + (1 : Int32)) + (1 : Int32)) (1 : Int32)) ((((((0 : Int32) + (1 : Int32)) + (1 : Int32)) + (1 : Int32)) + (1 : Int32)) + (1 : Int32)) (11 : Int32)))) := by
  refine wp_of (uf_X9_tellsAs _ _ _ _ _ _ _ _) ?_
  refine wp_of (uf_X9_tellsAso _ _ _ _ _ _ _ _) ?_
  refine wp_ifn (by decide) ?_
  refine wp_ifn (by decide) ?_
  refine wp_in2 ?_
  refine wp_of (uf_X9_begins _ _ _ _) ?_
  refine wp_ifn (by decide) ?_
  refine wp_ck (i_inb (by decide) (by rw [show ((0 : Int32)).toInt = 0 from by decide]; (try simp only [is_len]); omega)) ?_
  refine wp_nm (fun y1 h1 => ?_)
  subst h1
  refine wp_of (uf_X9_begins_19 _ _ _) ?_
  refine wp_nm (fun y2 h2 => ?_)
  subst h2
  refine wp_so2 ?_
  show wp _ _
  refine wp_in3 ?_
  refine wp_of (uf_X9_laysAs _ _ _ _ _ _ _ _) ?_
  refine wp_of (uf_X9_laysAso _ _ _ _ _ _ _ _) ?_
  refine wp_ifn (by decide) ?_
  refine wp_ifn (by decide) ?_
  refine wp_ifn (by decide) ?_
  refine wp_ifn (by decide) ?_
  refine wp_in2 ?_
  refine wp_of (uf_X9_begins _ _ _ _) ?_
  refine wp_ifn (by decide) ?_
  refine wp_ck (i_inb (by decide) (by rw [show (((0 : Int32) + (1 : Int32))).toInt = 1 from by decide]; (try simp only [is_len]); omega)) ?_
  refine wp_nm (fun y3 h3 => ?_)
  subst h3
  refine wp_of (uf_X9_begins_19 _ _ _) ?_
  refine wp_nm (fun y4 h4 => ?_)
  subst h4
  refine wp_so2 ?_
  show wp _ _
  refine wp_in3 ?_
  refine wp_of (uf_X9_foldsAs _ _ _ _ _ _ _) ?_
  refine wp_of (uf_X9_foldsAso _ _ _ _ _ _ _) ?_
  refine wp_ifp (by decide) ?_
  refine wp_in2 ?_
  refine wp_of (uf_X9_begins _ _ _ _) ?_
  refine wp_ifn (by decide) ?_
  refine wp_ck (i_inb (by decide) (by rw [show ((((0 : Int32) + (1 : Int32)) + (1 : Int32))).toInt = 2 from by decide]; (try simp only [is_len]); omega)) ?_
  refine wp_nm (fun y5 h5 => ?_)
  subst h5
  refine wp_of (uf_X9_begins_19 _ _ _) ?_
  refine wp_nm (fun y6 h6 => ?_)
  subst h6
  refine wp_so2 ?_
  show wp _ _
  refine wp_in3 ?_
  refine wp_of (uf_X9_foldsAs _ _ _ _ _ _ _) ?_
  refine wp_of (uf_X9_foldsAso _ _ _ _ _ _ _) ?_
  refine wp_ifn (by decide) ?_
  refine wp_ifp (by decide) ?_
  refine wp_in2 ?_
  refine wp_of (uf_X9_begins _ _ _ _) ?_
  refine wp_ifn (by decide) ?_
  refine wp_ck (i_inb (by decide) (by rw [show (((((0 : Int32) + (1 : Int32)) + (1 : Int32)) + (1 : Int32))).toInt = 3 from by decide]; (try simp only [is_len]); omega)) ?_
  refine wp_nm (fun y7 h7 => ?_)
  subst h7
  refine wp_of (uf_X9_begins_19 _ _ _) ?_
  refine wp_nm (fun y8 h8 => ?_)
  subst h8
  refine wp_so2 ?_
  show wp _ _
  refine wp_in3 ?_
  refine wp_of (uf_X9_foldsAs _ _ _ _ _ _ _) ?_
  refine wp_of (uf_X9_foldsAso _ _ _ _ _ _ _) ?_
  refine wp_ifn (by decide) ?_
  refine wp_ifn (by decide) ?_
  refine wp_in2 ?_
  refine wp_of (uf_X9_begins _ _ _ _) ?_
  refine wp_ifn (by decide) ?_
  refine wp_ck (i_inb (by decide) (by rw [show ((((((0 : Int32) + (1 : Int32)) + (1 : Int32)) + (1 : Int32)) + (1 : Int32))).toInt = 4 from by decide]; (try simp only [is_len]); omega)) ?_
  refine wp_nm (fun y9 h9 => ?_)
  subst h9
  refine wp_of (uf_X9_begins_19 _ _ _) ?_
  refine wp_nm (fun y10 h10 => ?_)
  subst h10
  refine wp_so2 ?_
  show wp _ _
  refine wp_so3 ?_
  show wp _ _
  refine wp_so3 ?_
  show wp _ _
  refine wp_so3 ?_
  show wp _ _
  refine wp_so3 ?_
  show wp _ _
  refine wp_in3 ?_
  refine wp_of (uf_X9_wearsAs _ _ _ _ _ _ _ _) ?_
  refine wp_of (uf_X9_wearsAso _ _ _ _ _ _ _ _) ?_
  refine wp_ifn (by decide) ?_
  refine wp_ifn (by decide) ?_
  refine wp_ifn (by decide) ?_
  refine wp_ifn (by decide) ?_
  refine wp_in2 ?_
  refine wp_of (uf_X9_begins _ _ _ _) ?_
  refine wp_ifn (by decide) ?_
  refine wp_ck (i_inb (by decide) (by rw [show (((((((0 : Int32) + (1 : Int32)) + (1 : Int32)) + (1 : Int32)) + (1 : Int32)) + (1 : Int32))).toInt = 5 from by decide]; (try simp only [is_len]); omega)) ?_
  refine wp_nm (fun y11 h11 => ?_)
  subst h11
  refine wp_of (uf_X9_begins_19 _ _ _) ?_
  refine wp_nm (fun y12 h12 => ?_)
  subst h12
  refine wp_so2 ?_
  show wp _ _
  refine wp_so3 ?_
  show wp _ _
  exact wp_so3 ⟨rfl, rfl, rfl⟩

set_option maxRecDepth 20000 in
theorem ac9_7_0 (x b : Int32) (tr : List Int32) (hl : tr.length = 24) : wp (fX9_foldsAs 700 4 (7 : Int32) x (0 : Int32) b tr) (cu3 (fun r0 r1 r2 => r0 = (x + b) ∧ r1 = ((0 : Int32) + (1 : Int32)) ∧ r2 = (mm_is tr (0 : Int32) (1 : Int32)))) := by
  refine wp_of (uf_X9_foldsAs _ _ _ _ _ _ _) ?_
  refine wp_of (uf_X9_foldsAso _ _ _ _ _ _ _) ?_
  refine wp_ifn (by decide) ?_
  refine wp_ifn (by decide) ?_
  refine wp_in2 ?_
  refine wp_of (uf_X9_begins _ _ _ _) ?_
  refine wp_ifn (by decide) ?_
  refine wp_ck (i_inb (by decide) (by rw [show ((0 : Int32)).toInt = 0 from by decide]; (try simp only [is_len]); omega)) ?_
  refine wp_nm (fun y1 h1 => ?_)
  subst h1
  refine wp_of (uf_X9_begins_19 _ _ _) ?_
  refine wp_nm (fun y2 h2 => ?_)
  subst h2
  refine wp_so2 ?_
  show wp _ _
  exact wp_so3 ⟨rfl, rfl, rfl⟩

set_option maxRecDepth 20000 in
theorem ac9_7_1 (x b : Int32) (tr : List Int32) (hl : tr.length = 24) : wp (fX9_laysAs 700 5 (7 : Int32) x (0 : Int32) (7 : Int32) b tr) (cu3 (fun r0 r1 r2 => r0 = (((x + b) * (2 : Int32)) + (((2 : Int32) ^^^ b) - ((2 : Int32) + b))) ∧ r1 = (((((((0 : Int32) + (1 : Int32)) + (1 : Int32)) + (1 : Int32)) + (1 : Int32)) + (1 : Int32)) + (1 : Int32)) ∧ r2 = (mm_is (mm_is (mm_is (mm_is (mm_is (mm_is tr (0 : Int32) (80 : Int32)) ((0 : Int32) + (1 : Int32)) (10 : Int32)) (((0 : Int32) + (1 : Int32)) + (1 : Int32)) (1 : Int32)) ((((0 : Int32) + (1 : Int32)) + (1 : Int32)) + (1 : Int32)) (50 : Int32)) (((((0 : Int32) + (1 : Int32)) + (1 : Int32)) + (1 : Int32)) + (1 : Int32)) (11 : Int32)) ((((((0 : Int32) + (1 : Int32)) + (1 : Int32)) + (1 : Int32)) + (1 : Int32)) + (1 : Int32)) (1 : Int32)))) := by
  refine wp_of (uf_X9_laysAs _ _ _ _ _ _ _ _) ?_
  refine wp_of (uf_X9_laysAso _ _ _ _ _ _ _ _) ?_
  refine wp_ifn (by decide) ?_
  refine wp_ifn (by decide) ?_
  refine wp_ifn (by decide) ?_
  refine wp_ifp (by decide) ?_
  refine wp_in2 ?_
  refine wp_of (uf_X9_begins _ _ _ _) ?_
  refine wp_ifn (by decide) ?_
  refine wp_ck (i_inb (by decide) (by rw [show ((0 : Int32)).toInt = 0 from by decide]; (try simp only [is_len]); omega)) ?_
  refine wp_nm (fun y1 h1 => ?_)
  subst h1
  refine wp_of (uf_X9_begins_19 _ _ _) ?_
  refine wp_nm (fun y2 h2 => ?_)
  subst h2
  refine wp_so2 ?_
  show wp _ _
  refine wp_in3 ?_
  refine wp_of (uf_X9_laysAs _ _ _ _ _ _ _ _) ?_
  refine wp_of (uf_X9_laysAso _ _ _ _ _ _ _ _) ?_
  refine wp_ifn (by decide) ?_
  refine wp_ifn (by decide) ?_
  refine wp_ifn (by decide) ?_
  refine wp_ifn (by decide) ?_
  refine wp_in2 ?_
  refine wp_of (uf_X9_begins _ _ _ _) ?_
  refine wp_ifn (by decide) ?_
  refine wp_ck (i_inb (by decide) (by rw [show (((0 : Int32) + (1 : Int32))).toInt = 1 from by decide]; (try simp only [is_len]); omega)) ?_
  refine wp_nm (fun y3 h3 => ?_)
  subst h3
  refine wp_of (uf_X9_begins_19 _ _ _) ?_
  refine wp_nm (fun y4 h4 => ?_)
  subst h4
  refine wp_so2 ?_
  show wp _ _
  refine wp_in3 ?_
  refine wp_of (uf_X9_foldsAs _ _ _ _ _ _ _) ?_
  refine wp_of (uf_X9_foldsAso _ _ _ _ _ _ _) ?_
  refine wp_ifn (by decide) ?_
  refine wp_ifn (by decide) ?_
  refine wp_in2 ?_
  refine wp_of (uf_X9_begins _ _ _ _) ?_
  refine wp_ifn (by decide) ?_
  refine wp_ck (i_inb (by decide) (by rw [show ((((0 : Int32) + (1 : Int32)) + (1 : Int32))).toInt = 2 from by decide]; (try simp only [is_len]); omega)) ?_
  refine wp_nm (fun y5 h5 => ?_)
  subst h5
  refine wp_of (uf_X9_begins_19 _ _ _) ?_
  refine wp_nm (fun y6 h6 => ?_)
  subst h6
  refine wp_so2 ?_
  show wp _ _
  refine wp_so3 ?_
  show wp _ _
  refine wp_so3 ?_
  show wp _ _
  refine wp_in3 ?_
  refine wp_of (uf_X9_wearsAs _ _ _ _ _ _ _ _) ?_
  refine wp_of (uf_X9_wearsAso _ _ _ _ _ _ _ _) ?_
  refine wp_ifn (by decide) ?_
  refine wp_ifn (by decide) ?_
  refine wp_ifn (by decide) ?_
  refine wp_ifp (by decide) ?_
  refine wp_of (uf_X9_wearsAs_36 _ _ _ _ _ _ _) ?_
  refine wp_in2 ?_
  refine wp_of (uf_X9_begins _ _ _ _) ?_
  refine wp_ifn (by decide) ?_
  refine wp_ck (i_inb (by decide) (by rw [show (((((0 : Int32) + (1 : Int32)) + (1 : Int32)) + (1 : Int32))).toInt = 3 from by decide]; (try simp only [is_len]); omega)) ?_
  refine wp_nm (fun y7 h7 => ?_)
  subst h7
  refine wp_of (uf_X9_begins_19 _ _ _) ?_
  refine wp_nm (fun y8 h8 => ?_)
  subst h8
  refine wp_so2 ?_
  show wp _ _
  refine wp_in3 ?_
  refine wp_of (uf_X9_wearsAs _ _ _ _ _ _ _ _) ?_
  refine wp_of (uf_X9_wearsAso _ _ _ _ _ _ _ _) ?_
  refine wp_ifn (by decide) ?_
  refine wp_ifn (by decide) ?_
  refine wp_ifn (by decide) ?_
  refine wp_ifn (by decide) ?_
  refine wp_in2 ?_
  refine wp_of (uf_X9_begins _ _ _ _) ?_
  refine wp_ifn (by decide) ?_
  refine wp_ck (i_inb (by decide) (by rw [show ((((((0 : Int32) + (1 : Int32)) + (1 : Int32)) + (1 : Int32)) + (1 : Int32))).toInt = 4 from by decide]; (try simp only [is_len]); omega)) ?_
  refine wp_nm (fun y9 h9 => ?_)
  subst h9
  refine wp_of (uf_X9_begins_19 _ _ _) ?_
  refine wp_nm (fun y10 h10 => ?_)
  subst h10
  refine wp_so2 ?_
  show wp _ _
  refine wp_so3 ?_
  show wp _ _
  refine wp_in3 ?_
  refine wp_of (uf_X9_foldsAs _ _ _ _ _ _ _) ?_
  refine wp_of (uf_X9_foldsAso _ _ _ _ _ _ _) ?_
  refine wp_ifn (by decide) ?_
  refine wp_ifn (by decide) ?_
  refine wp_in2 ?_
  refine wp_of (uf_X9_begins _ _ _ _) ?_
  refine wp_ifn (by decide) ?_
  refine wp_ck (i_inb (by decide) (by rw [show (((((((0 : Int32) + (1 : Int32)) + (1 : Int32)) + (1 : Int32)) + (1 : Int32)) + (1 : Int32))).toInt = 5 from by decide]; (try simp only [is_len]); omega)) ?_
  refine wp_nm (fun y11 h11 => ?_)
  subst h11
  refine wp_of (uf_X9_begins_19 _ _ _) ?_
  refine wp_nm (fun y12 h12 => ?_)
  subst h12
  refine wp_so2 ?_
  show wp _ _
  refine wp_so3 ?_
  show wp _ _
  refine wp_so3 ?_
  show wp _ _
  exact wp_so3 ⟨rfl, rfl, rfl⟩

set_option maxRecDepth 20000 in
theorem ac9_7_2 (x b : Int32) (tr : List Int32) (hl : tr.length = 24) : wp (fX9_wearsAs 700 4 (7 : Int32) x (0 : Int32) (7 : Int32) b tr) (cu3 (fun r0 r1 r2 => r0 = ((x ^^^ b) - ((2 : Int32) + b)) ∧ r1 = ((((0 : Int32) + (1 : Int32)) + (1 : Int32)) + (1 : Int32)) ∧ r2 = (mm_is (mm_is (mm_is tr (0 : Int32) (50 : Int32)) ((0 : Int32) + (1 : Int32)) (11 : Int32)) (((0 : Int32) + (1 : Int32)) + (1 : Int32)) (1 : Int32)))) := by
  refine wp_of (uf_X9_wearsAs _ _ _ _ _ _ _ _) ?_
  refine wp_of (uf_X9_wearsAso _ _ _ _ _ _ _ _) ?_
  refine wp_ifn (by decide) ?_
  refine wp_ifn (by decide) ?_
  refine wp_ifn (by decide) ?_
  refine wp_ifp (by decide) ?_
  refine wp_of (uf_X9_wearsAs_36 _ _ _ _ _ _ _) ?_
  refine wp_in2 ?_
  refine wp_of (uf_X9_begins _ _ _ _) ?_
  refine wp_ifn (by decide) ?_
  refine wp_ck (i_inb (by decide) (by rw [show ((0 : Int32)).toInt = 0 from by decide]; (try simp only [is_len]); omega)) ?_
  refine wp_nm (fun y1 h1 => ?_)
  subst h1
  refine wp_of (uf_X9_begins_19 _ _ _) ?_
  refine wp_nm (fun y2 h2 => ?_)
  subst h2
  refine wp_so2 ?_
  show wp _ _
  refine wp_in3 ?_
  refine wp_of (uf_X9_wearsAs _ _ _ _ _ _ _ _) ?_
  refine wp_of (uf_X9_wearsAso _ _ _ _ _ _ _ _) ?_
  refine wp_ifn (by decide) ?_
  refine wp_ifn (by decide) ?_
  refine wp_ifn (by decide) ?_
  refine wp_ifn (by decide) ?_
  refine wp_in2 ?_
  refine wp_of (uf_X9_begins _ _ _ _) ?_
  refine wp_ifn (by decide) ?_
  refine wp_ck (i_inb (by decide) (by rw [show (((0 : Int32) + (1 : Int32))).toInt = 1 from by decide]; (try simp only [is_len]); omega)) ?_
  refine wp_nm (fun y3 h3 => ?_)
  subst h3
  refine wp_of (uf_X9_begins_19 _ _ _) ?_
  refine wp_nm (fun y4 h4 => ?_)
  subst h4
  refine wp_so2 ?_
  show wp _ _
  refine wp_so3 ?_
  show wp _ _
  refine wp_in3 ?_
  refine wp_of (uf_X9_foldsAs _ _ _ _ _ _ _) ?_
  refine wp_of (uf_X9_foldsAso _ _ _ _ _ _ _) ?_
  refine wp_ifn (by decide) ?_
  refine wp_ifn (by decide) ?_
  refine wp_in2 ?_
  refine wp_of (uf_X9_begins _ _ _ _) ?_
  refine wp_ifn (by decide) ?_
  refine wp_ck (i_inb (by decide) (by rw [show ((((0 : Int32) + (1 : Int32)) + (1 : Int32))).toInt = 2 from by decide]; (try simp only [is_len]); omega)) ?_
  refine wp_nm (fun y5 h5 => ?_)
  subst h5
  refine wp_of (uf_X9_begins_19 _ _ _) ?_
  refine wp_nm (fun y6 h6 => ?_)
  subst h6
  refine wp_so2 ?_
  show wp _ _
  refine wp_so3 ?_
  show wp _ _
  exact wp_so3 ⟨rfl, rfl, rfl⟩

set_option maxRecDepth 20000 in
theorem ac9_7_3 (x b : Int32) (tr : List Int32) (hl : tr.length = 24) : wp (fX9_tellsAs 700 4 (7 : Int32) x (0 : Int32) (7 : Int32) b tr) (cu3 (fun r0 r1 r2 => r0 = (((((x + b) * (2 : Int32)) + (((2 : Int32) ^^^ b) - ((2 : Int32) + b))) - (((1 : Int32) ^^^ b) - ((2 : Int32) + b))) - (1 : Int32)) ∧ r1 = ((((((((((((0 : Int32) + (1 : Int32)) + (1 : Int32)) + (1 : Int32)) + (1 : Int32)) + (1 : Int32)) + (1 : Int32)) + (1 : Int32)) + (1 : Int32)) + (1 : Int32)) + (1 : Int32)) + (1 : Int32)) ∧ r2 = (mm_is (mm_is (mm_is (mm_is (mm_is (mm_is (mm_is (mm_is (mm_is (mm_is (mm_is tr (0 : Int32) (81 : Int32)) ((0 : Int32) + (1 : Int32)) (2 : Int32)) (((0 : Int32) + (1 : Int32)) + (1 : Int32)) (80 : Int32)) ((((0 : Int32) + (1 : Int32)) + (1 : Int32)) + (1 : Int32)) (10 : Int32)) (((((0 : Int32) + (1 : Int32)) + (1 : Int32)) + (1 : Int32)) + (1 : Int32)) (1 : Int32)) ((((((0 : Int32) + (1 : Int32)) + (1 : Int32)) + (1 : Int32)) + (1 : Int32)) + (1 : Int32)) (50 : Int32)) (((((((0 : Int32) + (1 : Int32)) + (1 : Int32)) + (1 : Int32)) + (1 : Int32)) + (1 : Int32)) + (1 : Int32)) (11 : Int32)) ((((((((0 : Int32) + (1 : Int32)) + (1 : Int32)) + (1 : Int32)) + (1 : Int32)) + (1 : Int32)) + (1 : Int32)) + (1 : Int32)) (1 : Int32)) (((((((((0 : Int32) + (1 : Int32)) + (1 : Int32)) + (1 : Int32)) + (1 : Int32)) + (1 : Int32)) + (1 : Int32)) + (1 : Int32)) + (1 : Int32)) (50 : Int32)) ((((((((((0 : Int32) + (1 : Int32)) + (1 : Int32)) + (1 : Int32)) + (1 : Int32)) + (1 : Int32)) + (1 : Int32)) + (1 : Int32)) + (1 : Int32)) + (1 : Int32)) (11 : Int32)) (((((((((((0 : Int32) + (1 : Int32)) + (1 : Int32)) + (1 : Int32)) + (1 : Int32)) + (1 : Int32)) + (1 : Int32)) + (1 : Int32)) + (1 : Int32)) + (1 : Int32)) + (1 : Int32)) (1 : Int32)))) := by
  refine wp_of (uf_X9_tellsAs _ _ _ _ _ _ _ _) ?_
  refine wp_of (uf_X9_tellsAso _ _ _ _ _ _ _ _) ?_
  refine wp_ifn (by decide) ?_
  refine wp_ifp (by decide) ?_
  refine wp_in2 ?_
  refine wp_of (uf_X9_begins _ _ _ _) ?_
  refine wp_ifn (by decide) ?_
  refine wp_ck (i_inb (by decide) (by rw [show ((0 : Int32)).toInt = 0 from by decide]; (try simp only [is_len]); omega)) ?_
  refine wp_nm (fun y1 h1 => ?_)
  subst h1
  refine wp_of (uf_X9_begins_19 _ _ _) ?_
  refine wp_nm (fun y2 h2 => ?_)
  subst h2
  refine wp_so2 ?_
  show wp _ _
  refine wp_in3 ?_
  refine wp_of (uf_X9_tellsAs _ _ _ _ _ _ _ _) ?_
  refine wp_of (uf_X9_tellsAso _ _ _ _ _ _ _ _) ?_
  refine wp_ifn (by decide) ?_
  refine wp_ifn (by decide) ?_
  refine wp_in2 ?_
  refine wp_of (uf_X9_begins _ _ _ _) ?_
  refine wp_ifn (by decide) ?_
  refine wp_ck (i_inb (by decide) (by rw [show (((0 : Int32) + (1 : Int32))).toInt = 1 from by decide]; (try simp only [is_len]); omega)) ?_
  refine wp_nm (fun y3 h3 => ?_)
  subst h3
  refine wp_of (uf_X9_begins_19 _ _ _) ?_
  refine wp_nm (fun y4 h4 => ?_)
  subst h4
  refine wp_so2 ?_
  show wp _ _
  refine wp_in3 ?_
  refine wp_of (uf_X9_laysAs _ _ _ _ _ _ _ _) ?_
  refine wp_of (uf_X9_laysAso _ _ _ _ _ _ _ _) ?_
  refine wp_ifn (by decide) ?_
  refine wp_ifn (by decide) ?_
  refine wp_ifn (by decide) ?_
  refine wp_ifp (by decide) ?_
  refine wp_in2 ?_
  refine wp_of (uf_X9_begins _ _ _ _) ?_
  refine wp_ifn (by decide) ?_
  refine wp_ck (i_inb (by decide) (by rw [show ((((0 : Int32) + (1 : Int32)) + (1 : Int32))).toInt = 2 from by decide]; (try simp only [is_len]); omega)) ?_
  refine wp_nm (fun y5 h5 => ?_)
  subst h5
  refine wp_of (uf_X9_begins_19 _ _ _) ?_
  refine wp_nm (fun y6 h6 => ?_)
  subst h6
  refine wp_so2 ?_
  show wp _ _
  refine wp_in3 ?_
  refine wp_of (uf_X9_laysAs _ _ _ _ _ _ _ _) ?_
  refine wp_of (uf_X9_laysAso _ _ _ _ _ _ _ _) ?_
  refine wp_ifn (by decide) ?_
  refine wp_ifn (by decide) ?_
  refine wp_ifn (by decide) ?_
  refine wp_ifn (by decide) ?_
  refine wp_in2 ?_
  refine wp_of (uf_X9_begins _ _ _ _) ?_
  refine wp_ifn (by decide) ?_
  refine wp_ck (i_inb (by decide) (by rw [show (((((0 : Int32) + (1 : Int32)) + (1 : Int32)) + (1 : Int32))).toInt = 3 from by decide]; (try simp only [is_len]); omega)) ?_
  refine wp_nm (fun y7 h7 => ?_)
  subst h7
  refine wp_of (uf_X9_begins_19 _ _ _) ?_
  refine wp_nm (fun y8 h8 => ?_)
  subst h8
  refine wp_so2 ?_
  show wp _ _
  refine wp_in3 ?_
  refine wp_of (uf_X9_foldsAs _ _ _ _ _ _ _) ?_
  refine wp_of (uf_X9_foldsAso _ _ _ _ _ _ _) ?_
  refine wp_ifn (by decide) ?_
  refine wp_ifn (by decide) ?_
  refine wp_in2 ?_
  refine wp_of (uf_X9_begins _ _ _ _) ?_
  refine wp_ifn (by decide) ?_
  refine wp_ck (i_inb (by decide) (by rw [show ((((((0 : Int32) + (1 : Int32)) + (1 : Int32)) + (1 : Int32)) + (1 : Int32))).toInt = 4 from by decide]; (try simp only [is_len]); omega)) ?_
  refine wp_nm (fun y9 h9 => ?_)
  subst h9
  refine wp_of (uf_X9_begins_19 _ _ _) ?_
  refine wp_nm (fun y10 h10 => ?_)
  subst h10
  refine wp_so2 ?_
  show wp _ _
  refine wp_so3 ?_
  show wp _ _
  refine wp_so3 ?_
  show wp _ _
  refine wp_in3 ?_
  refine wp_of (uf_X9_wearsAs _ _ _ _ _ _ _ _) ?_
  refine wp_of (uf_X9_wearsAso _ _ _ _ _ _ _ _) ?_
  refine wp_ifn (by decide) ?_
  refine wp_ifn (by decide) ?_
  refine wp_ifn (by decide) ?_
  refine wp_ifp (by decide) ?_
  refine wp_of (uf_X9_wearsAs_36 _ _ _ _ _ _ _) ?_
  refine wp_in2 ?_
  refine wp_of (uf_X9_begins _ _ _ _) ?_
  refine wp_ifn (by decide) ?_
  refine wp_ck (i_inb (by decide) (by rw [show (((((((0 : Int32) + (1 : Int32)) + (1 : Int32)) + (1 : Int32)) + (1 : Int32)) + (1 : Int32))).toInt = 5 from by decide]; (try simp only [is_len]); omega)) ?_
  refine wp_nm (fun y11 h11 => ?_)
  subst h11
  refine wp_of (uf_X9_begins_19 _ _ _) ?_
  refine wp_nm (fun y12 h12 => ?_)
  subst h12
  refine wp_so2 ?_
  show wp _ _
  refine wp_in3 ?_
  refine wp_of (uf_X9_wearsAs _ _ _ _ _ _ _ _) ?_
  refine wp_of (uf_X9_wearsAso _ _ _ _ _ _ _ _) ?_
  refine wp_ifn (by decide) ?_
  refine wp_ifn (by decide) ?_
  refine wp_ifn (by decide) ?_
  refine wp_ifn (by decide) ?_
  refine wp_in2 ?_
  refine wp_of (uf_X9_begins _ _ _ _) ?_
  refine wp_ifn (by decide) ?_
  refine wp_ck (i_inb (by decide) (by rw [show ((((((((0 : Int32) + (1 : Int32)) + (1 : Int32)) + (1 : Int32)) + (1 : Int32)) + (1 : Int32)) + (1 : Int32))).toInt = 6 from by decide]; (try simp only [is_len]); omega)) ?_
  refine wp_nm (fun y13 h13 => ?_)
  subst h13
  refine wp_of (uf_X9_begins_19 _ _ _) ?_
  refine wp_nm (fun y14 h14 => ?_)
  subst h14
  refine wp_so2 ?_
  show wp _ _
  refine wp_so3 ?_
  show wp _ _
  refine wp_in3 ?_
  refine wp_of (uf_X9_foldsAs _ _ _ _ _ _ _) ?_
  refine wp_of (uf_X9_foldsAso _ _ _ _ _ _ _) ?_
  refine wp_ifn (by decide) ?_
  refine wp_ifn (by decide) ?_
  refine wp_in2 ?_
  refine wp_of (uf_X9_begins _ _ _ _) ?_
  refine wp_ifn (by decide) ?_
  refine wp_ck (i_inb (by decide) (by rw [show (((((((((0 : Int32) + (1 : Int32)) + (1 : Int32)) + (1 : Int32)) + (1 : Int32)) + (1 : Int32)) + (1 : Int32)) + (1 : Int32))).toInt = 7 from by decide]; (try simp only [is_len]); omega)) ?_
  refine wp_nm (fun y15 h15 => ?_)
  subst h15
  refine wp_of (uf_X9_begins_19 _ _ _) ?_
  refine wp_nm (fun y16 h16 => ?_)
  subst h16
  refine wp_so2 ?_
  show wp _ _
  refine wp_so3 ?_
  show wp _ _
  refine wp_so3 ?_
  show wp _ _
  refine wp_so3 ?_
  show wp _ _
  refine wp_in3 ?_
  refine wp_of (uf_X9_wearsAs _ _ _ _ _ _ _ _) ?_
  refine wp_of (uf_X9_wearsAso _ _ _ _ _ _ _ _) ?_
  refine wp_ifn (by decide) ?_
  refine wp_ifn (by decide) ?_
  refine wp_ifn (by decide) ?_
  refine wp_ifp (by decide) ?_
  refine wp_of (uf_X9_wearsAs_36 _ _ _ _ _ _ _) ?_
  refine wp_in2 ?_
  refine wp_of (uf_X9_begins _ _ _ _) ?_
  refine wp_ifn (by decide) ?_
  refine wp_ck (i_inb (by decide) (by rw [show ((((((((((0 : Int32) + (1 : Int32)) + (1 : Int32)) + (1 : Int32)) + (1 : Int32)) + (1 : Int32)) + (1 : Int32)) + (1 : Int32)) + (1 : Int32))).toInt = 8 from by decide]; (try simp only [is_len]); omega)) ?_
  refine wp_nm (fun y17 h17 => ?_)
  subst h17
  refine wp_of (uf_X9_begins_19 _ _ _) ?_
  refine wp_nm (fun y18 h18 => ?_)
  subst h18
  refine wp_so2 ?_
  show wp _ _
  refine wp_in3 ?_
  refine wp_of (uf_X9_wearsAs _ _ _ _ _ _ _ _) ?_
  refine wp_of (uf_X9_wearsAso _ _ _ _ _ _ _ _) ?_
  refine wp_ifn (by decide) ?_
  refine wp_ifn (by decide) ?_
  refine wp_ifn (by decide) ?_
  refine wp_ifn (by decide) ?_
  refine wp_in2 ?_
  refine wp_of (uf_X9_begins _ _ _ _) ?_
  refine wp_ifn (by decide) ?_
  refine wp_ck (i_inb (by decide) (by rw [show (((((((((((0 : Int32) + (1 : Int32)) + (1 : Int32)) + (1 : Int32)) + (1 : Int32)) + (1 : Int32)) + (1 : Int32)) + (1 : Int32)) + (1 : Int32)) + (1 : Int32))).toInt = 9 from by decide]; (try simp only [is_len]); omega)) ?_
  refine wp_nm (fun y19 h19 => ?_)
  subst h19
  refine wp_of (uf_X9_begins_19 _ _ _) ?_
  refine wp_nm (fun y20 h20 => ?_)
  subst h20
  refine wp_so2 ?_
  show wp _ _
  refine wp_so3 ?_
  show wp _ _
  refine wp_in3 ?_
  refine wp_of (uf_X9_foldsAs _ _ _ _ _ _ _) ?_
  refine wp_of (uf_X9_foldsAso _ _ _ _ _ _ _) ?_
  refine wp_ifn (by decide) ?_
  refine wp_ifn (by decide) ?_
  refine wp_in2 ?_
  refine wp_of (uf_X9_begins _ _ _ _) ?_
  refine wp_ifn (by decide) ?_
  refine wp_ck (i_inb (by decide) (by rw [show ((((((((((((0 : Int32) + (1 : Int32)) + (1 : Int32)) + (1 : Int32)) + (1 : Int32)) + (1 : Int32)) + (1 : Int32)) + (1 : Int32)) + (1 : Int32)) + (1 : Int32)) + (1 : Int32))).toInt = 10 from by decide]; (try simp only [is_len]); omega)) ?_
  refine wp_nm (fun y21 h21 => ?_)
  subst h21
  refine wp_of (uf_X9_begins_19 _ _ _) ?_
  refine wp_nm (fun y22 h22 => ?_)
  subst h22
  refine wp_so2 ?_
  show wp _ _
  refine wp_so3 ?_
  show wp _ _
  refine wp_so3 ?_
  show wp _ _
  refine wp_so3 ?_
  show wp _ _
  exact wp_so3 ⟨rfl, rfl, rfl⟩
end
section
/-! acts of both -/
set_option maxRecDepth 20000 in
theorem ac_0_0 (x b : Int32) (tr : List Int32) (hl : tr.length = 24) : ∃ r c t, fX1_call 700 (fX1_run 700 42) (0 : Int32) (0 : Int32) (0 : Int32) x (0 : Int32) (0 : Int32) b tr = some (r, c, t) ∧ fX9_foldsAs 700 4 (0 : Int32) x (0 : Int32) b tr = some (r, c, t) ∧ t.length = 24 := by
  obtain ⟨⟨r, c, t⟩, e, h⟩ := ac8_0_0 x b tr hl
  obtain ⟨⟨r', c', t'⟩, e', h'⟩ := ac9_0_0 x b tr hl
  have h1 : r = (x + b) ∧ c = ((0 : Int32) + (1 : Int32)) ∧ t = (mm_is tr (0 : Int32) (mm_ig mm_OWN (((4 : Int32) * (0 : Int32)) + (0 : Int32)))) := h
  have h2 : r' = (x + b) ∧ c' = ((0 : Int32) + (1 : Int32)) ∧ t' = (mm_is tr (0 : Int32) (1 : Int32)) := h'
  refine ⟨r, c, t, e, ?_, ?_⟩
  · rw [e', h1.1, h1.2.1, h1.2.2, h2.1, h2.2.1, h2.2.2]
    rfl
  · rw [h1.2.2]
    simp only [is_len]
    exact hl
set_option maxRecDepth 20000 in
theorem ac_0_1 (x b : Int32) (tr : List Int32) (hl : tr.length = 24) : ∃ r c t, fX1_call 700 (fX1_run 700 42) (0 : Int32) (0 : Int32) (1 : Int32) x (0 : Int32) (0 : Int32) b tr = some (r, c, t) ∧ fX9_laysAs 700 5 (0 : Int32) x (0 : Int32) (0 : Int32) b tr = some (r, c, t) ∧ t.length = 24 := by
  obtain ⟨⟨r, c, t⟩, e, h⟩ := ac8_0_1 x b tr hl
  obtain ⟨⟨r', c', t'⟩, e', h'⟩ := ac9_0_1 x b tr hl
  have h1 : r = ((x + b) * (2 : Int32)) ∧ c = (((0 : Int32) + (1 : Int32)) + (1 : Int32)) ∧ t = (mm_is (mm_is tr (0 : Int32) (mm_ig mm_OWN (((4 : Int32) * (0 : Int32)) + (1 : Int32)))) ((0 : Int32) + (1 : Int32)) (mm_ig mm_OWN (((4 : Int32) * (0 : Int32)) + (0 : Int32)))) := h
  have h2 : r' = ((x + b) * (2 : Int32)) ∧ c' = (((0 : Int32) + (1 : Int32)) + (1 : Int32)) ∧ t' = (mm_is (mm_is tr (0 : Int32) (10 : Int32)) ((0 : Int32) + (1 : Int32)) (1 : Int32)) := h'
  refine ⟨r, c, t, e, ?_, ?_⟩
  · rw [e', h1.1, h1.2.1, h1.2.2, h2.1, h2.2.1, h2.2.2]
    rfl
  · rw [h1.2.2]
    simp only [is_len]
    exact hl
set_option maxRecDepth 20000 in
theorem ac_0_2 (x b : Int32) (tr : List Int32) (hl : tr.length = 24) : ∃ r c t, fX1_call 700 (fX1_run 700 42) (0 : Int32) (0 : Int32) (2 : Int32) x (0 : Int32) (0 : Int32) b tr = some (r, c, t) ∧ fX9_wearsAs 700 4 (0 : Int32) x (0 : Int32) (0 : Int32) b tr = some (r, c, t) ∧ t.length = 24 := by
  obtain ⟨⟨r, c, t⟩, e, h⟩ := ac8_0_2 x b tr hl
  obtain ⟨⟨r', c', t'⟩, e', h'⟩ := ac9_0_2 x b tr hl
  have h1 : r = (x ^^^ b) ∧ c = ((0 : Int32) + (1 : Int32)) ∧ t = (mm_is tr (0 : Int32) (mm_ig mm_OWN (((4 : Int32) * (0 : Int32)) + (2 : Int32)))) := h
  have h2 : r' = (x ^^^ b) ∧ c' = ((0 : Int32) + (1 : Int32)) ∧ t' = (mm_is tr (0 : Int32) (11 : Int32)) := h'
  refine ⟨r, c, t, e, ?_, ?_⟩
  · rw [e', h1.1, h1.2.1, h1.2.2, h2.1, h2.2.1, h2.2.2]
    rfl
  · rw [h1.2.2]
    simp only [is_len]
    exact hl
set_option maxRecDepth 20000 in
theorem ac_0_3 (x b : Int32) (tr : List Int32) (hl : tr.length = 24) : ∃ r c t, fX1_call 700 (fX1_run 700 42) (0 : Int32) (0 : Int32) (3 : Int32) x (0 : Int32) (0 : Int32) b tr = some (r, c, t) ∧ fX9_tellsAs 700 4 (0 : Int32) x (0 : Int32) (0 : Int32) b tr = some (r, c, t) ∧ t.length = 24 := by
  obtain ⟨⟨r, c, t⟩, e, h⟩ := ac8_0_3 x b tr hl
  obtain ⟨⟨r', c', t'⟩, e', h'⟩ := ac9_0_3 x b tr hl
  have h1 : r = (((x + b) * (2 : Int32)) - ((1 : Int32) ^^^ b)) ∧ c = (((((0 : Int32) + (1 : Int32)) + (1 : Int32)) + (1 : Int32)) + (1 : Int32)) ∧ t = (mm_is (mm_is (mm_is (mm_is tr (0 : Int32) (mm_ig mm_OWN (((4 : Int32) * (0 : Int32)) + (3 : Int32)))) ((0 : Int32) + (1 : Int32)) (mm_ig mm_OWN (((4 : Int32) * (0 : Int32)) + (1 : Int32)))) (((0 : Int32) + (1 : Int32)) + (1 : Int32)) (mm_ig mm_OWN (((4 : Int32) * (0 : Int32)) + (0 : Int32)))) ((((0 : Int32) + (1 : Int32)) + (1 : Int32)) + (1 : Int32)) (mm_ig mm_OWN (((4 : Int32) * (0 : Int32)) + (2 : Int32)))) := h
  have h2 : r' = (((x + b) * (2 : Int32)) - ((1 : Int32) ^^^ b)) ∧ c' = (((((0 : Int32) + (1 : Int32)) + (1 : Int32)) + (1 : Int32)) + (1 : Int32)) ∧ t' = (mm_is (mm_is (mm_is (mm_is tr (0 : Int32) (2 : Int32)) ((0 : Int32) + (1 : Int32)) (10 : Int32)) (((0 : Int32) + (1 : Int32)) + (1 : Int32)) (1 : Int32)) ((((0 : Int32) + (1 : Int32)) + (1 : Int32)) + (1 : Int32)) (11 : Int32)) := h'
  refine ⟨r, c, t, e, ?_, ?_⟩
  · rw [e', h1.1, h1.2.1, h1.2.2, h2.1, h2.2.1, h2.2.2]
    rfl
  · rw [h1.2.2]
    simp only [is_len]
    exact hl
set_option maxRecDepth 20000 in
theorem ac_1_0 (x b : Int32) (tr : List Int32) (hl : tr.length = 24) : ∃ r c t, fX1_call 700 (fX1_run 700 42) (1 : Int32) (1 : Int32) (0 : Int32) x (0 : Int32) (0 : Int32) b tr = some (r, c, t) ∧ fX9_foldsAs 700 4 (1 : Int32) x (0 : Int32) b tr = some (r, c, t) ∧ t.length = 24 := by
  obtain ⟨⟨r, c, t⟩, e, h⟩ := ac8_1_0 x b tr hl
  obtain ⟨⟨r', c', t'⟩, e', h'⟩ := ac9_1_0 x b tr hl
  have h1 : r = ((x + b) + (3 : Int32)) ∧ c = (((0 : Int32) + (1 : Int32)) + (1 : Int32)) ∧ t = (mm_is (mm_is tr (0 : Int32) (mm_ig mm_OWN (((4 : Int32) * (1 : Int32)) + (0 : Int32)))) ((0 : Int32) + (1 : Int32)) (mm_ig mm_OWN (((4 : Int32) * (mm_ig mm_ABOVE (1 : Int32))) + (0 : Int32)))) := h
  have h2 : r' = ((x + b) + (3 : Int32)) ∧ c' = (((0 : Int32) + (1 : Int32)) + (1 : Int32)) ∧ t' = (mm_is (mm_is tr (0 : Int32) (20 : Int32)) ((0 : Int32) + (1 : Int32)) (1 : Int32)) := h'
  refine ⟨r, c, t, e, ?_, ?_⟩
  · rw [e', h1.1, h1.2.1, h1.2.2, h2.1, h2.2.1, h2.2.2]
    rfl
  · rw [h1.2.2]
    simp only [is_len]
    exact hl
set_option maxRecDepth 20000 in
theorem ac_1_1 (x b : Int32) (tr : List Int32) (hl : tr.length = 24) : ∃ r c t, fX1_call 700 (fX1_run 700 42) (1 : Int32) (1 : Int32) (1 : Int32) x (0 : Int32) (0 : Int32) b tr = some (r, c, t) ∧ fX9_laysAs 700 5 (1 : Int32) x (0 : Int32) (1 : Int32) b tr = some (r, c, t) ∧ t.length = 24 := by
  obtain ⟨⟨r, c, t⟩, e, h⟩ := ac8_1_1 x b tr hl
  obtain ⟨⟨r', c', t'⟩, e', h'⟩ := ac9_1_1 x b tr hl
  have h1 : r = (((x + b) + (3 : Int32)) * (2 : Int32)) ∧ c = ((((0 : Int32) + (1 : Int32)) + (1 : Int32)) + (1 : Int32)) ∧ t = (mm_is (mm_is (mm_is tr (0 : Int32) (mm_ig mm_OWN (((4 : Int32) * (mm_ig mm_ABOVE (1 : Int32))) + (1 : Int32)))) ((0 : Int32) + (1 : Int32)) (mm_ig mm_OWN (((4 : Int32) * (1 : Int32)) + (0 : Int32)))) (((0 : Int32) + (1 : Int32)) + (1 : Int32)) (mm_ig mm_OWN (((4 : Int32) * (mm_ig mm_ABOVE (1 : Int32))) + (0 : Int32)))) := h
  have h2 : r' = (((x + b) + (3 : Int32)) * (2 : Int32)) ∧ c' = ((((0 : Int32) + (1 : Int32)) + (1 : Int32)) + (1 : Int32)) ∧ t' = (mm_is (mm_is (mm_is tr (0 : Int32) (10 : Int32)) ((0 : Int32) + (1 : Int32)) (20 : Int32)) (((0 : Int32) + (1 : Int32)) + (1 : Int32)) (1 : Int32)) := h'
  refine ⟨r, c, t, e, ?_, ?_⟩
  · rw [e', h1.1, h1.2.1, h1.2.2, h2.1, h2.2.1, h2.2.2]
    rfl
  · rw [h1.2.2]
    simp only [is_len]
    exact hl
set_option maxRecDepth 20000 in
theorem ac_1_2 (x b : Int32) (tr : List Int32) (hl : tr.length = 24) : ∃ r c t, fX1_call 700 (fX1_run 700 42) (1 : Int32) (1 : Int32) (2 : Int32) x (0 : Int32) (0 : Int32) b tr = some (r, c, t) ∧ fX9_wearsAs 700 4 (1 : Int32) x (0 : Int32) (1 : Int32) b tr = some (r, c, t) ∧ t.length = 24 := by
  obtain ⟨⟨r, c, t⟩, e, h⟩ := ac8_1_2 x b tr hl
  obtain ⟨⟨r', c', t'⟩, e', h'⟩ := ac9_1_2 x b tr hl
  have h1 : r = (x ^^^ b) ∧ c = ((0 : Int32) + (1 : Int32)) ∧ t = (mm_is tr (0 : Int32) (mm_ig mm_OWN (((4 : Int32) * (mm_ig mm_ABOVE (1 : Int32))) + (2 : Int32)))) := h
  have h2 : r' = (x ^^^ b) ∧ c' = ((0 : Int32) + (1 : Int32)) ∧ t' = (mm_is tr (0 : Int32) (11 : Int32)) := h'
  refine ⟨r, c, t, e, ?_, ?_⟩
  · rw [e', h1.1, h1.2.1, h1.2.2, h2.1, h2.2.1, h2.2.2]
    rfl
  · rw [h1.2.2]
    simp only [is_len]
    exact hl
set_option maxRecDepth 20000 in
theorem ac_1_3 (x b : Int32) (tr : List Int32) (hl : tr.length = 24) : ∃ r c t, fX1_call 700 (fX1_run 700 42) (1 : Int32) (1 : Int32) (3 : Int32) x (0 : Int32) (0 : Int32) b tr = some (r, c, t) ∧ fX9_tellsAs 700 4 (1 : Int32) x (0 : Int32) (1 : Int32) b tr = some (r, c, t) ∧ t.length = 24 := by
  obtain ⟨⟨r, c, t⟩, e, h⟩ := ac8_1_3 x b tr hl
  obtain ⟨⟨r', c', t'⟩, e', h'⟩ := ac9_1_3 x b tr hl
  have h1 : r = ((((x + b) + (3 : Int32)) * (2 : Int32)) - ((1 : Int32) ^^^ b)) ∧ c = ((((((0 : Int32) + (1 : Int32)) + (1 : Int32)) + (1 : Int32)) + (1 : Int32)) + (1 : Int32)) ∧ t = (mm_is (mm_is (mm_is (mm_is (mm_is tr (0 : Int32) (mm_ig mm_OWN (((4 : Int32) * (mm_ig mm_ABOVE (1 : Int32))) + (3 : Int32)))) ((0 : Int32) + (1 : Int32)) (mm_ig mm_OWN (((4 : Int32) * (mm_ig mm_ABOVE (1 : Int32))) + (1 : Int32)))) (((0 : Int32) + (1 : Int32)) + (1 : Int32)) (mm_ig mm_OWN (((4 : Int32) * (1 : Int32)) + (0 : Int32)))) ((((0 : Int32) + (1 : Int32)) + (1 : Int32)) + (1 : Int32)) (mm_ig mm_OWN (((4 : Int32) * (mm_ig mm_ABOVE (1 : Int32))) + (0 : Int32)))) (((((0 : Int32) + (1 : Int32)) + (1 : Int32)) + (1 : Int32)) + (1 : Int32)) (mm_ig mm_OWN (((4 : Int32) * (mm_ig mm_ABOVE (1 : Int32))) + (2 : Int32)))) := h
  have h2 : r' = ((((x + b) + (3 : Int32)) * (2 : Int32)) - ((1 : Int32) ^^^ b)) ∧ c' = ((((((0 : Int32) + (1 : Int32)) + (1 : Int32)) + (1 : Int32)) + (1 : Int32)) + (1 : Int32)) ∧ t' = (mm_is (mm_is (mm_is (mm_is (mm_is tr (0 : Int32) (2 : Int32)) ((0 : Int32) + (1 : Int32)) (10 : Int32)) (((0 : Int32) + (1 : Int32)) + (1 : Int32)) (20 : Int32)) ((((0 : Int32) + (1 : Int32)) + (1 : Int32)) + (1 : Int32)) (1 : Int32)) (((((0 : Int32) + (1 : Int32)) + (1 : Int32)) + (1 : Int32)) + (1 : Int32)) (11 : Int32)) := h'
  refine ⟨r, c, t, e, ?_, ?_⟩
  · rw [e', h1.1, h1.2.1, h1.2.2, h2.1, h2.2.1, h2.2.2]
    rfl
  · rw [h1.2.2]
    simp only [is_len]
    exact hl
set_option maxRecDepth 20000 in
theorem ac_2_0 (x b : Int32) (tr : List Int32) (hl : tr.length = 24) : ∃ r c t, fX1_call 700 (fX1_run 700 42) (2 : Int32) (2 : Int32) (0 : Int32) x (0 : Int32) (0 : Int32) b tr = some (r, c, t) ∧ fX9_foldsAs 700 4 (2 : Int32) x (0 : Int32) b tr = some (r, c, t) ∧ t.length = 24 := by
  obtain ⟨⟨r, c, t⟩, e, h⟩ := ac8_2_0 x b tr hl
  obtain ⟨⟨r', c', t'⟩, e', h'⟩ := ac9_2_0 x b tr hl
  have h1 : r = (x + b) ∧ c = ((0 : Int32) + (1 : Int32)) ∧ t = (mm_is tr (0 : Int32) (mm_ig mm_OWN (((4 : Int32) * (mm_ig mm_ABOVE (2 : Int32))) + (0 : Int32)))) := h
  have h2 : r' = (x + b) ∧ c' = ((0 : Int32) + (1 : Int32)) ∧ t' = (mm_is tr (0 : Int32) (1 : Int32)) := h'
  refine ⟨r, c, t, e, ?_, ?_⟩
  · rw [e', h1.1, h1.2.1, h1.2.2, h2.1, h2.2.1, h2.2.2]
    rfl
  · rw [h1.2.2]
    simp only [is_len]
    exact hl
set_option maxRecDepth 20000 in
theorem ac_2_1 (x b : Int32) (tr : List Int32) (hl : tr.length = 24) : ∃ r c t, fX1_call 700 (fX1_run 700 42) (2 : Int32) (2 : Int32) (1 : Int32) x (0 : Int32) (0 : Int32) b tr = some (r, c, t) ∧ fX9_laysAs 700 5 (2 : Int32) x (0 : Int32) (2 : Int32) b tr = some (r, c, t) ∧ t.length = 24 := by
  obtain ⟨⟨r, c, t⟩, e, h⟩ := ac8_2_1 x b tr hl
  obtain ⟨⟨r', c', t'⟩, e', h'⟩ := ac9_2_1 x b tr hl
  have h1 : r = (-((x + b) * (2 : Int32))) ∧ c = ((((0 : Int32) + (1 : Int32)) + (1 : Int32)) + (1 : Int32)) ∧ t = (mm_is (mm_is (mm_is tr (0 : Int32) (mm_ig mm_OWN (((4 : Int32) * (2 : Int32)) + (1 : Int32)))) ((0 : Int32) + (1 : Int32)) (mm_ig mm_OWN (((4 : Int32) * (mm_ig mm_ABOVE (2 : Int32))) + (1 : Int32)))) (((0 : Int32) + (1 : Int32)) + (1 : Int32)) (mm_ig mm_OWN (((4 : Int32) * (mm_ig mm_ABOVE (2 : Int32))) + (0 : Int32)))) := h
  have h2 : r' = (-((x + b) * (2 : Int32))) ∧ c' = ((((0 : Int32) + (1 : Int32)) + (1 : Int32)) + (1 : Int32)) ∧ t' = (mm_is (mm_is (mm_is tr (0 : Int32) (30 : Int32)) ((0 : Int32) + (1 : Int32)) (10 : Int32)) (((0 : Int32) + (1 : Int32)) + (1 : Int32)) (1 : Int32)) := h'
  refine ⟨r, c, t, e, ?_, ?_⟩
  · rw [e', h1.1, h1.2.1, h1.2.2, h2.1, h2.2.1, h2.2.2]
    rfl
  · rw [h1.2.2]
    simp only [is_len]
    exact hl
set_option maxRecDepth 20000 in
theorem ac_2_2 (x b : Int32) (tr : List Int32) (hl : tr.length = 24) : ∃ r c t, fX1_call 700 (fX1_run 700 42) (2 : Int32) (2 : Int32) (2 : Int32) x (0 : Int32) (0 : Int32) b tr = some (r, c, t) ∧ fX9_wearsAs 700 4 (2 : Int32) x (0 : Int32) (2 : Int32) b tr = some (r, c, t) ∧ t.length = 24 := by
  obtain ⟨⟨r, c, t⟩, e, h⟩ := ac8_2_2 x b tr hl
  obtain ⟨⟨r', c', t'⟩, e', h'⟩ := ac9_2_2 x b tr hl
  have h1 : r = (x ^^^ b) ∧ c = ((0 : Int32) + (1 : Int32)) ∧ t = (mm_is tr (0 : Int32) (mm_ig mm_OWN (((4 : Int32) * (mm_ig mm_ABOVE (2 : Int32))) + (2 : Int32)))) := h
  have h2 : r' = (x ^^^ b) ∧ c' = ((0 : Int32) + (1 : Int32)) ∧ t' = (mm_is tr (0 : Int32) (11 : Int32)) := h'
  refine ⟨r, c, t, e, ?_, ?_⟩
  · rw [e', h1.1, h1.2.1, h1.2.2, h2.1, h2.2.1, h2.2.2]
    rfl
  · rw [h1.2.2]
    simp only [is_len]
    exact hl
set_option maxRecDepth 20000 in
theorem ac_2_3 (x b : Int32) (tr : List Int32) (hl : tr.length = 24) : ∃ r c t, fX1_call 700 (fX1_run 700 42) (2 : Int32) (2 : Int32) (3 : Int32) x (0 : Int32) (0 : Int32) b tr = some (r, c, t) ∧ fX9_tellsAs 700 4 (2 : Int32) x (0 : Int32) (2 : Int32) b tr = some (r, c, t) ∧ t.length = 24 := by
  obtain ⟨⟨r, c, t⟩, e, h⟩ := ac8_2_3 x b tr hl
  obtain ⟨⟨r', c', t'⟩, e', h'⟩ := ac9_2_3 x b tr hl
  have h1 : r = ((-((x + b) * (2 : Int32))) - ((1 : Int32) ^^^ b)) ∧ c = ((((((0 : Int32) + (1 : Int32)) + (1 : Int32)) + (1 : Int32)) + (1 : Int32)) + (1 : Int32)) ∧ t = (mm_is (mm_is (mm_is (mm_is (mm_is tr (0 : Int32) (mm_ig mm_OWN (((4 : Int32) * (mm_ig mm_ABOVE (2 : Int32))) + (3 : Int32)))) ((0 : Int32) + (1 : Int32)) (mm_ig mm_OWN (((4 : Int32) * (2 : Int32)) + (1 : Int32)))) (((0 : Int32) + (1 : Int32)) + (1 : Int32)) (mm_ig mm_OWN (((4 : Int32) * (mm_ig mm_ABOVE (2 : Int32))) + (1 : Int32)))) ((((0 : Int32) + (1 : Int32)) + (1 : Int32)) + (1 : Int32)) (mm_ig mm_OWN (((4 : Int32) * (mm_ig mm_ABOVE (2 : Int32))) + (0 : Int32)))) (((((0 : Int32) + (1 : Int32)) + (1 : Int32)) + (1 : Int32)) + (1 : Int32)) (mm_ig mm_OWN (((4 : Int32) * (mm_ig mm_ABOVE (2 : Int32))) + (2 : Int32)))) := h
  have h2 : r' = ((-((x + b) * (2 : Int32))) - ((1 : Int32) ^^^ b)) ∧ c' = ((((((0 : Int32) + (1 : Int32)) + (1 : Int32)) + (1 : Int32)) + (1 : Int32)) + (1 : Int32)) ∧ t' = (mm_is (mm_is (mm_is (mm_is (mm_is tr (0 : Int32) (2 : Int32)) ((0 : Int32) + (1 : Int32)) (30 : Int32)) (((0 : Int32) + (1 : Int32)) + (1 : Int32)) (10 : Int32)) ((((0 : Int32) + (1 : Int32)) + (1 : Int32)) + (1 : Int32)) (1 : Int32)) (((((0 : Int32) + (1 : Int32)) + (1 : Int32)) + (1 : Int32)) + (1 : Int32)) (11 : Int32)) := h'
  refine ⟨r, c, t, e, ?_, ?_⟩
  · rw [e', h1.1, h1.2.1, h1.2.2, h2.1, h2.2.1, h2.2.2]
    rfl
  · rw [h1.2.2]
    simp only [is_len]
    exact hl
set_option maxRecDepth 20000 in
theorem ac_3_0 (x b : Int32) (tr : List Int32) (hl : tr.length = 24) : ∃ r c t, fX1_call 700 (fX1_run 700 42) (3 : Int32) (3 : Int32) (0 : Int32) x (0 : Int32) (0 : Int32) b tr = some (r, c, t) ∧ fX9_foldsAs 700 4 (3 : Int32) x (0 : Int32) b tr = some (r, c, t) ∧ t.length = 24 := by
  obtain ⟨⟨r, c, t⟩, e, h⟩ := ac8_3_0 x b tr hl
  obtain ⟨⟨r', c', t'⟩, e', h'⟩ := ac9_3_0 x b tr hl
  have h1 : r = (x + b) ∧ c = ((0 : Int32) + (1 : Int32)) ∧ t = (mm_is tr (0 : Int32) (mm_ig mm_OWN (((4 : Int32) * (mm_ig mm_ABOVE (mm_ig mm_ABOVE (3 : Int32)))) + (0 : Int32)))) := h
  have h2 : r' = (x + b) ∧ c' = ((0 : Int32) + (1 : Int32)) ∧ t' = (mm_is tr (0 : Int32) (1 : Int32)) := h'
  refine ⟨r, c, t, e, ?_, ?_⟩
  · rw [e', h1.1, h1.2.1, h1.2.2, h2.1, h2.2.1, h2.2.2]
    rfl
  · rw [h1.2.2]
    simp only [is_len]
    exact hl
set_option maxRecDepth 20000 in
theorem ac_3_1 (x b : Int32) (tr : List Int32) (hl : tr.length = 24) : ∃ r c t, fX1_call 700 (fX1_run 700 42) (3 : Int32) (3 : Int32) (1 : Int32) x (0 : Int32) (0 : Int32) b tr = some (r, c, t) ∧ fX9_laysAs 700 5 (3 : Int32) x (0 : Int32) (3 : Int32) b tr = some (r, c, t) ∧ t.length = 24 := by
  obtain ⟨⟨r, c, t⟩, e, h⟩ := ac8_3_1 x b tr hl
  obtain ⟨⟨r', c', t'⟩, e', h'⟩ := ac9_3_1 x b tr hl
  have h1 : r = (-(((x + (1 : Int32)) + b) * (2 : Int32))) ∧ c = (((((0 : Int32) + (1 : Int32)) + (1 : Int32)) + (1 : Int32)) + (1 : Int32)) ∧ t = (mm_is (mm_is (mm_is (mm_is tr (0 : Int32) (mm_ig mm_OWN (((4 : Int32) * (3 : Int32)) + (1 : Int32)))) ((0 : Int32) + (1 : Int32)) (mm_ig mm_OWN (((4 : Int32) * (mm_ig mm_ABOVE (3 : Int32))) + (1 : Int32)))) (((0 : Int32) + (1 : Int32)) + (1 : Int32)) (mm_ig mm_OWN (((4 : Int32) * (mm_ig mm_ABOVE (mm_ig mm_ABOVE (3 : Int32)))) + (1 : Int32)))) ((((0 : Int32) + (1 : Int32)) + (1 : Int32)) + (1 : Int32)) (mm_ig mm_OWN (((4 : Int32) * (mm_ig mm_ABOVE (mm_ig mm_ABOVE (3 : Int32)))) + (0 : Int32)))) := h
  have h2 : r' = (-(((x + (1 : Int32)) + b) * (2 : Int32))) ∧ c' = (((((0 : Int32) + (1 : Int32)) + (1 : Int32)) + (1 : Int32)) + (1 : Int32)) ∧ t' = (mm_is (mm_is (mm_is (mm_is tr (0 : Int32) (41 : Int32)) ((0 : Int32) + (1 : Int32)) (30 : Int32)) (((0 : Int32) + (1 : Int32)) + (1 : Int32)) (10 : Int32)) ((((0 : Int32) + (1 : Int32)) + (1 : Int32)) + (1 : Int32)) (1 : Int32)) := h'
  refine ⟨r, c, t, e, ?_, ?_⟩
  · rw [e', h1.1, h1.2.1, h1.2.2, h2.1, h2.2.1, h2.2.2]
    rfl
  · rw [h1.2.2]
    simp only [is_len]
    exact hl
set_option maxRecDepth 20000 in
theorem ac_3_2 (x b : Int32) (tr : List Int32) (hl : tr.length = 24) : ∃ r c t, fX1_call 700 (fX1_run 700 42) (3 : Int32) (3 : Int32) (2 : Int32) x (0 : Int32) (0 : Int32) b tr = some (r, c, t) ∧ fX9_wearsAs 700 4 (3 : Int32) x (0 : Int32) (3 : Int32) b tr = some (r, c, t) ∧ t.length = 24 := by
  obtain ⟨⟨r, c, t⟩, e, h⟩ := ac8_3_2 x b tr hl
  obtain ⟨⟨r', c', t'⟩, e', h'⟩ := ac9_3_2 x b tr hl
  have h1 : r = ((x ^^^ b) * (3 : Int32)) ∧ c = (((0 : Int32) + (1 : Int32)) + (1 : Int32)) ∧ t = (mm_is (mm_is tr (0 : Int32) (mm_ig mm_OWN (((4 : Int32) * (3 : Int32)) + (2 : Int32)))) ((0 : Int32) + (1 : Int32)) (mm_ig mm_OWN (((4 : Int32) * (mm_ig mm_ABOVE (mm_ig mm_ABOVE (3 : Int32)))) + (2 : Int32)))) := h
  have h2 : r' = ((x ^^^ b) * (3 : Int32)) ∧ c' = (((0 : Int32) + (1 : Int32)) + (1 : Int32)) ∧ t' = (mm_is (mm_is tr (0 : Int32) (40 : Int32)) ((0 : Int32) + (1 : Int32)) (11 : Int32)) := h'
  refine ⟨r, c, t, e, ?_, ?_⟩
  · rw [e', h1.1, h1.2.1, h1.2.2, h2.1, h2.2.1, h2.2.2]
    rfl
  · rw [h1.2.2]
    simp only [is_len]
    exact hl
set_option maxRecDepth 20000 in
theorem ac_3_3 (x b : Int32) (tr : List Int32) (hl : tr.length = 24) : ∃ r c t, fX1_call 700 (fX1_run 700 42) (3 : Int32) (3 : Int32) (3 : Int32) x (0 : Int32) (0 : Int32) b tr = some (r, c, t) ∧ fX9_tellsAs 700 4 (3 : Int32) x (0 : Int32) (3 : Int32) b tr = some (r, c, t) ∧ t.length = 24 := by
  obtain ⟨⟨r, c, t⟩, e, h⟩ := ac8_3_3 x b tr hl
  obtain ⟨⟨r', c', t'⟩, e', h'⟩ := ac9_3_3 x b tr hl
  have h1 : r = ((-(((x + (1 : Int32)) + b) * (2 : Int32))) - (((1 : Int32) ^^^ b) * (3 : Int32))) ∧ c = ((((((((0 : Int32) + (1 : Int32)) + (1 : Int32)) + (1 : Int32)) + (1 : Int32)) + (1 : Int32)) + (1 : Int32)) + (1 : Int32)) ∧ t = (mm_is (mm_is (mm_is (mm_is (mm_is (mm_is (mm_is tr (0 : Int32) (mm_ig mm_OWN (((4 : Int32) * (mm_ig mm_ABOVE (mm_ig mm_ABOVE (3 : Int32)))) + (3 : Int32)))) ((0 : Int32) + (1 : Int32)) (mm_ig mm_OWN (((4 : Int32) * (3 : Int32)) + (1 : Int32)))) (((0 : Int32) + (1 : Int32)) + (1 : Int32)) (mm_ig mm_OWN (((4 : Int32) * (mm_ig mm_ABOVE (3 : Int32))) + (1 : Int32)))) ((((0 : Int32) + (1 : Int32)) + (1 : Int32)) + (1 : Int32)) (mm_ig mm_OWN (((4 : Int32) * (mm_ig mm_ABOVE (mm_ig mm_ABOVE (3 : Int32)))) + (1 : Int32)))) (((((0 : Int32) + (1 : Int32)) + (1 : Int32)) + (1 : Int32)) + (1 : Int32)) (mm_ig mm_OWN (((4 : Int32) * (mm_ig mm_ABOVE (mm_ig mm_ABOVE (3 : Int32)))) + (0 : Int32)))) ((((((0 : Int32) + (1 : Int32)) + (1 : Int32)) + (1 : Int32)) + (1 : Int32)) + (1 : Int32)) (mm_ig mm_OWN (((4 : Int32) * (3 : Int32)) + (2 : Int32)))) (((((((0 : Int32) + (1 : Int32)) + (1 : Int32)) + (1 : Int32)) + (1 : Int32)) + (1 : Int32)) + (1 : Int32)) (mm_ig mm_OWN (((4 : Int32) * (mm_ig mm_ABOVE (mm_ig mm_ABOVE (3 : Int32)))) + (2 : Int32)))) := h
  have h2 : r' = ((-(((x + (1 : Int32)) + b) * (2 : Int32))) - (((1 : Int32) ^^^ b) * (3 : Int32))) ∧ c' = ((((((((0 : Int32) + (1 : Int32)) + (1 : Int32)) + (1 : Int32)) + (1 : Int32)) + (1 : Int32)) + (1 : Int32)) + (1 : Int32)) ∧ t' = (mm_is (mm_is (mm_is (mm_is (mm_is (mm_is (mm_is tr (0 : Int32) (2 : Int32)) ((0 : Int32) + (1 : Int32)) (41 : Int32)) (((0 : Int32) + (1 : Int32)) + (1 : Int32)) (30 : Int32)) ((((0 : Int32) + (1 : Int32)) + (1 : Int32)) + (1 : Int32)) (10 : Int32)) (((((0 : Int32) + (1 : Int32)) + (1 : Int32)) + (1 : Int32)) + (1 : Int32)) (1 : Int32)) ((((((0 : Int32) + (1 : Int32)) + (1 : Int32)) + (1 : Int32)) + (1 : Int32)) + (1 : Int32)) (40 : Int32)) (((((((0 : Int32) + (1 : Int32)) + (1 : Int32)) + (1 : Int32)) + (1 : Int32)) + (1 : Int32)) + (1 : Int32)) (11 : Int32)) := h'
  refine ⟨r, c, t, e, ?_, ?_⟩
  · rw [e', h1.1, h1.2.1, h1.2.2, h2.1, h2.2.1, h2.2.2]
    rfl
  · rw [h1.2.2]
    simp only [is_len]
    exact hl
set_option maxRecDepth 20000 in
theorem ac_4_0 (x b : Int32) (tr : List Int32) (hl : tr.length = 24) : ∃ r c t, fX1_call 700 (fX1_run 700 42) (4 : Int32) (4 : Int32) (0 : Int32) x (0 : Int32) (0 : Int32) b tr = some (r, c, t) ∧ fX9_foldsAs 700 4 (4 : Int32) x (0 : Int32) b tr = some (r, c, t) ∧ t.length = 24 := by
  obtain ⟨⟨r, c, t⟩, e, h⟩ := ac8_4_0 x b tr hl
  obtain ⟨⟨r', c', t'⟩, e', h'⟩ := ac9_4_0 x b tr hl
  have h1 : r = (x + b) ∧ c = ((0 : Int32) + (1 : Int32)) ∧ t = (mm_is tr (0 : Int32) (mm_ig mm_OWN (((4 : Int32) * (mm_ig mm_ABOVE (4 : Int32))) + (0 : Int32)))) := h
  have h2 : r' = (x + b) ∧ c' = ((0 : Int32) + (1 : Int32)) ∧ t' = (mm_is tr (0 : Int32) (1 : Int32)) := h'
  refine ⟨r, c, t, e, ?_, ?_⟩
  · rw [e', h1.1, h1.2.1, h1.2.2, h2.1, h2.2.1, h2.2.2]
    rfl
  · rw [h1.2.2]
    simp only [is_len]
    exact hl
set_option maxRecDepth 20000 in
theorem ac_4_1 (x b : Int32) (tr : List Int32) (hl : tr.length = 24) : ∃ r c t, fX1_call 700 (fX1_run 700 42) (4 : Int32) (4 : Int32) (1 : Int32) x (0 : Int32) (0 : Int32) b tr = some (r, c, t) ∧ fX9_laysAs 700 5 (4 : Int32) x (0 : Int32) (4 : Int32) b tr = some (r, c, t) ∧ t.length = 24 := by
  obtain ⟨⟨r, c, t⟩, e, h⟩ := ac8_4_1 x b tr hl
  obtain ⟨⟨r', c', t'⟩, e', h'⟩ := ac9_4_1 x b tr hl
  have h1 : r = ((x + b) * (2 : Int32)) ∧ c = (((0 : Int32) + (1 : Int32)) + (1 : Int32)) ∧ t = (mm_is (mm_is tr (0 : Int32) (mm_ig mm_OWN (((4 : Int32) * (mm_ig mm_ABOVE (4 : Int32))) + (1 : Int32)))) ((0 : Int32) + (1 : Int32)) (mm_ig mm_OWN (((4 : Int32) * (mm_ig mm_ABOVE (4 : Int32))) + (0 : Int32)))) := h
  have h2 : r' = ((x + b) * (2 : Int32)) ∧ c' = (((0 : Int32) + (1 : Int32)) + (1 : Int32)) ∧ t' = (mm_is (mm_is tr (0 : Int32) (10 : Int32)) ((0 : Int32) + (1 : Int32)) (1 : Int32)) := h'
  refine ⟨r, c, t, e, ?_, ?_⟩
  · rw [e', h1.1, h1.2.1, h1.2.2, h2.1, h2.2.1, h2.2.2]
    rfl
  · rw [h1.2.2]
    simp only [is_len]
    exact hl
set_option maxRecDepth 20000 in
theorem ac_4_2 (x b : Int32) (tr : List Int32) (hl : tr.length = 24) : ∃ r c t, fX1_call 700 (fX1_run 700 42) (4 : Int32) (4 : Int32) (2 : Int32) x (0 : Int32) (0 : Int32) b tr = some (r, c, t) ∧ fX9_wearsAs 700 4 (4 : Int32) x (0 : Int32) (4 : Int32) b tr = some (r, c, t) ∧ t.length = 24 := by
  obtain ⟨⟨r, c, t⟩, e, h⟩ := ac8_4_2 x b tr hl
  obtain ⟨⟨r', c', t'⟩, e', h'⟩ := ac9_4_2 x b tr hl
  have h1 : r = ((x ^^^ b) - ((2 : Int32) + b)) ∧ c = ((((0 : Int32) + (1 : Int32)) + (1 : Int32)) + (1 : Int32)) ∧ t = (mm_is (mm_is (mm_is tr (0 : Int32) (mm_ig mm_OWN (((4 : Int32) * (4 : Int32)) + (2 : Int32)))) ((0 : Int32) + (1 : Int32)) (mm_ig mm_OWN (((4 : Int32) * (mm_ig mm_ABOVE (4 : Int32))) + (2 : Int32)))) (((0 : Int32) + (1 : Int32)) + (1 : Int32)) (mm_ig mm_OWN (((4 : Int32) * (mm_ig mm_ABOVE (4 : Int32))) + (0 : Int32)))) := h
  have h2 : r' = ((x ^^^ b) - ((2 : Int32) + b)) ∧ c' = ((((0 : Int32) + (1 : Int32)) + (1 : Int32)) + (1 : Int32)) ∧ t' = (mm_is (mm_is (mm_is tr (0 : Int32) (50 : Int32)) ((0 : Int32) + (1 : Int32)) (11 : Int32)) (((0 : Int32) + (1 : Int32)) + (1 : Int32)) (1 : Int32)) := h'
  refine ⟨r, c, t, e, ?_, ?_⟩
  · rw [e', h1.1, h1.2.1, h1.2.2, h2.1, h2.2.1, h2.2.2]
    rfl
  · rw [h1.2.2]
    simp only [is_len]
    exact hl
set_option maxRecDepth 20000 in
theorem ac_4_3 (x b : Int32) (tr : List Int32) (hl : tr.length = 24) : ∃ r c t, fX1_call 700 (fX1_run 700 42) (4 : Int32) (4 : Int32) (3 : Int32) x (0 : Int32) (0 : Int32) b tr = some (r, c, t) ∧ fX9_tellsAs 700 4 (4 : Int32) x (0 : Int32) (4 : Int32) b tr = some (r, c, t) ∧ t.length = 24 := by
  obtain ⟨⟨r, c, t⟩, e, h⟩ := ac8_4_3 x b tr hl
  obtain ⟨⟨r', c', t'⟩, e', h'⟩ := ac9_4_3 x b tr hl
  have h1 : r = (((x + b) * (2 : Int32)) - (((1 : Int32) ^^^ b) - ((2 : Int32) + b))) ∧ c = (((((((0 : Int32) + (1 : Int32)) + (1 : Int32)) + (1 : Int32)) + (1 : Int32)) + (1 : Int32)) + (1 : Int32)) ∧ t = (mm_is (mm_is (mm_is (mm_is (mm_is (mm_is tr (0 : Int32) (mm_ig mm_OWN (((4 : Int32) * (mm_ig mm_ABOVE (4 : Int32))) + (3 : Int32)))) ((0 : Int32) + (1 : Int32)) (mm_ig mm_OWN (((4 : Int32) * (mm_ig mm_ABOVE (4 : Int32))) + (1 : Int32)))) (((0 : Int32) + (1 : Int32)) + (1 : Int32)) (mm_ig mm_OWN (((4 : Int32) * (mm_ig mm_ABOVE (4 : Int32))) + (0 : Int32)))) ((((0 : Int32) + (1 : Int32)) + (1 : Int32)) + (1 : Int32)) (mm_ig mm_OWN (((4 : Int32) * (4 : Int32)) + (2 : Int32)))) (((((0 : Int32) + (1 : Int32)) + (1 : Int32)) + (1 : Int32)) + (1 : Int32)) (mm_ig mm_OWN (((4 : Int32) * (mm_ig mm_ABOVE (4 : Int32))) + (2 : Int32)))) ((((((0 : Int32) + (1 : Int32)) + (1 : Int32)) + (1 : Int32)) + (1 : Int32)) + (1 : Int32)) (mm_ig mm_OWN (((4 : Int32) * (mm_ig mm_ABOVE (4 : Int32))) + (0 : Int32)))) := h
  have h2 : r' = (((x + b) * (2 : Int32)) - (((1 : Int32) ^^^ b) - ((2 : Int32) + b))) ∧ c' = (((((((0 : Int32) + (1 : Int32)) + (1 : Int32)) + (1 : Int32)) + (1 : Int32)) + (1 : Int32)) + (1 : Int32)) ∧ t' = (mm_is (mm_is (mm_is (mm_is (mm_is (mm_is tr (0 : Int32) (2 : Int32)) ((0 : Int32) + (1 : Int32)) (10 : Int32)) (((0 : Int32) + (1 : Int32)) + (1 : Int32)) (1 : Int32)) ((((0 : Int32) + (1 : Int32)) + (1 : Int32)) + (1 : Int32)) (50 : Int32)) (((((0 : Int32) + (1 : Int32)) + (1 : Int32)) + (1 : Int32)) + (1 : Int32)) (11 : Int32)) ((((((0 : Int32) + (1 : Int32)) + (1 : Int32)) + (1 : Int32)) + (1 : Int32)) + (1 : Int32)) (1 : Int32)) := h'
  refine ⟨r, c, t, e, ?_, ?_⟩
  · rw [e', h1.1, h1.2.1, h1.2.2, h2.1, h2.2.1, h2.2.2]
    rfl
  · rw [h1.2.2]
    simp only [is_len]
    exact hl
set_option maxRecDepth 20000 in
theorem ac_5_0 (x b : Int32) (tr : List Int32) (hl : tr.length = 24) : ∃ r c t, fX1_call 700 (fX1_run 700 42) (5 : Int32) (5 : Int32) (0 : Int32) x (0 : Int32) (0 : Int32) b tr = some (r, c, t) ∧ fX9_foldsAs 700 4 (5 : Int32) x (0 : Int32) b tr = some (r, c, t) ∧ t.length = 24 := by
  obtain ⟨⟨r, c, t⟩, e, h⟩ := ac8_5_0 x b tr hl
  obtain ⟨⟨r', c', t'⟩, e', h'⟩ := ac9_5_0 x b tr hl
  have h1 : r = (x + b) ∧ c = ((0 : Int32) + (1 : Int32)) ∧ t = (mm_is tr (0 : Int32) (mm_ig mm_OWN (((4 : Int32) * (mm_ig mm_ABOVE (mm_ig mm_ABOVE (mm_ig mm_ABOVE (5 : Int32))))) + (0 : Int32)))) := h
  have h2 : r' = (x + b) ∧ c' = ((0 : Int32) + (1 : Int32)) ∧ t' = (mm_is tr (0 : Int32) (1 : Int32)) := h'
  refine ⟨r, c, t, e, ?_, ?_⟩
  · rw [e', h1.1, h1.2.1, h1.2.2, h2.1, h2.2.1, h2.2.2]
    rfl
  · rw [h1.2.2]
    simp only [is_len]
    exact hl
set_option maxRecDepth 20000 in
theorem ac_5_1 (x b : Int32) (tr : List Int32) (hl : tr.length = 24) : ∃ r c t, fX1_call 700 (fX1_run 700 42) (5 : Int32) (5 : Int32) (1 : Int32) x (0 : Int32) (0 : Int32) b tr = some (r, c, t) ∧ fX9_laysAs 700 5 (5 : Int32) x (0 : Int32) (5 : Int32) b tr = some (r, c, t) ∧ t.length = 24 := by
  obtain ⟨⟨r, c, t⟩, e, h⟩ := ac8_5_1 x b tr hl
  obtain ⟨⟨r', c', t'⟩, e', h'⟩ := ac9_5_1 x b tr hl
  have h1 : r = (-(((x + (1 : Int32)) + b) * (2 : Int32))) ∧ c = (((((0 : Int32) + (1 : Int32)) + (1 : Int32)) + (1 : Int32)) + (1 : Int32)) ∧ t = (mm_is (mm_is (mm_is (mm_is tr (0 : Int32) (mm_ig mm_OWN (((4 : Int32) * (mm_ig mm_ABOVE (5 : Int32))) + (1 : Int32)))) ((0 : Int32) + (1 : Int32)) (mm_ig mm_OWN (((4 : Int32) * (mm_ig mm_ABOVE (mm_ig mm_ABOVE (5 : Int32)))) + (1 : Int32)))) (((0 : Int32) + (1 : Int32)) + (1 : Int32)) (mm_ig mm_OWN (((4 : Int32) * (mm_ig mm_ABOVE (mm_ig mm_ABOVE (mm_ig mm_ABOVE (5 : Int32))))) + (1 : Int32)))) ((((0 : Int32) + (1 : Int32)) + (1 : Int32)) + (1 : Int32)) (mm_ig mm_OWN (((4 : Int32) * (mm_ig mm_ABOVE (mm_ig mm_ABOVE (mm_ig mm_ABOVE (5 : Int32))))) + (0 : Int32)))) := h
  have h2 : r' = (-(((x + (1 : Int32)) + b) * (2 : Int32))) ∧ c' = (((((0 : Int32) + (1 : Int32)) + (1 : Int32)) + (1 : Int32)) + (1 : Int32)) ∧ t' = (mm_is (mm_is (mm_is (mm_is tr (0 : Int32) (41 : Int32)) ((0 : Int32) + (1 : Int32)) (30 : Int32)) (((0 : Int32) + (1 : Int32)) + (1 : Int32)) (10 : Int32)) ((((0 : Int32) + (1 : Int32)) + (1 : Int32)) + (1 : Int32)) (1 : Int32)) := h'
  refine ⟨r, c, t, e, ?_, ?_⟩
  · rw [e', h1.1, h1.2.1, h1.2.2, h2.1, h2.2.1, h2.2.2]
    rfl
  · rw [h1.2.2]
    simp only [is_len]
    exact hl
set_option maxRecDepth 20000 in
theorem ac_5_2 (x b : Int32) (tr : List Int32) (hl : tr.length = 24) : ∃ r c t, fX1_call 700 (fX1_run 700 42) (5 : Int32) (5 : Int32) (2 : Int32) x (0 : Int32) (0 : Int32) b tr = some (r, c, t) ∧ fX9_wearsAs 700 4 (5 : Int32) x (0 : Int32) (5 : Int32) b tr = some (r, c, t) ∧ t.length = 24 := by
  obtain ⟨⟨r, c, t⟩, e, h⟩ := ac8_5_2 x b tr hl
  obtain ⟨⟨r', c', t'⟩, e', h'⟩ := ac9_5_2 x b tr hl
  have h1 : r = ((x ^^^ b) * (3 : Int32)) ∧ c = (((0 : Int32) + (1 : Int32)) + (1 : Int32)) ∧ t = (mm_is (mm_is tr (0 : Int32) (mm_ig mm_OWN (((4 : Int32) * (mm_ig mm_ABOVE (5 : Int32))) + (2 : Int32)))) ((0 : Int32) + (1 : Int32)) (mm_ig mm_OWN (((4 : Int32) * (mm_ig mm_ABOVE (mm_ig mm_ABOVE (mm_ig mm_ABOVE (5 : Int32))))) + (2 : Int32)))) := h
  have h2 : r' = ((x ^^^ b) * (3 : Int32)) ∧ c' = (((0 : Int32) + (1 : Int32)) + (1 : Int32)) ∧ t' = (mm_is (mm_is tr (0 : Int32) (40 : Int32)) ((0 : Int32) + (1 : Int32)) (11 : Int32)) := h'
  refine ⟨r, c, t, e, ?_, ?_⟩
  · rw [e', h1.1, h1.2.1, h1.2.2, h2.1, h2.2.1, h2.2.2]
    rfl
  · rw [h1.2.2]
    simp only [is_len]
    exact hl
set_option maxRecDepth 20000 in
theorem ac_5_3 (x b : Int32) (tr : List Int32) (hl : tr.length = 24) : ∃ r c t, fX1_call 700 (fX1_run 700 42) (5 : Int32) (5 : Int32) (3 : Int32) x (0 : Int32) (0 : Int32) b tr = some (r, c, t) ∧ fX9_tellsAs 700 4 (5 : Int32) x (0 : Int32) (5 : Int32) b tr = some (r, c, t) ∧ t.length = 24 := by
  obtain ⟨⟨r, c, t⟩, e, h⟩ := ac8_5_3 x b tr hl
  obtain ⟨⟨r', c', t'⟩, e', h'⟩ := ac9_5_3 x b tr hl
  have h1 : r = (((-(((x + (1 : Int32)) + b) * (2 : Int32))) - (((1 : Int32) ^^^ b) * (3 : Int32))) ^^^ (5 : Int32)) ∧ c = (((((((((0 : Int32) + (1 : Int32)) + (1 : Int32)) + (1 : Int32)) + (1 : Int32)) + (1 : Int32)) + (1 : Int32)) + (1 : Int32)) + (1 : Int32)) ∧ t = (mm_is (mm_is (mm_is (mm_is (mm_is (mm_is (mm_is (mm_is tr (0 : Int32) (mm_ig mm_OWN (((4 : Int32) * (5 : Int32)) + (3 : Int32)))) ((0 : Int32) + (1 : Int32)) (mm_ig mm_OWN (((4 : Int32) * (mm_ig mm_ABOVE (mm_ig mm_ABOVE (mm_ig mm_ABOVE (5 : Int32))))) + (3 : Int32)))) (((0 : Int32) + (1 : Int32)) + (1 : Int32)) (mm_ig mm_OWN (((4 : Int32) * (mm_ig mm_ABOVE (5 : Int32))) + (1 : Int32)))) ((((0 : Int32) + (1 : Int32)) + (1 : Int32)) + (1 : Int32)) (mm_ig mm_OWN (((4 : Int32) * (mm_ig mm_ABOVE (mm_ig mm_ABOVE (5 : Int32)))) + (1 : Int32)))) (((((0 : Int32) + (1 : Int32)) + (1 : Int32)) + (1 : Int32)) + (1 : Int32)) (mm_ig mm_OWN (((4 : Int32) * (mm_ig mm_ABOVE (mm_ig mm_ABOVE (mm_ig mm_ABOVE (5 : Int32))))) + (1 : Int32)))) ((((((0 : Int32) + (1 : Int32)) + (1 : Int32)) + (1 : Int32)) + (1 : Int32)) + (1 : Int32)) (mm_ig mm_OWN (((4 : Int32) * (mm_ig mm_ABOVE (mm_ig mm_ABOVE (mm_ig mm_ABOVE (5 : Int32))))) + (0 : Int32)))) (((((((0 : Int32) + (1 : Int32)) + (1 : Int32)) + (1 : Int32)) + (1 : Int32)) + (1 : Int32)) + (1 : Int32)) (mm_ig mm_OWN (((4 : Int32) * (mm_ig mm_ABOVE (5 : Int32))) + (2 : Int32)))) ((((((((0 : Int32) + (1 : Int32)) + (1 : Int32)) + (1 : Int32)) + (1 : Int32)) + (1 : Int32)) + (1 : Int32)) + (1 : Int32)) (mm_ig mm_OWN (((4 : Int32) * (mm_ig mm_ABOVE (mm_ig mm_ABOVE (mm_ig mm_ABOVE (5 : Int32))))) + (2 : Int32)))) := h
  have h2 : r' = (((-(((x + (1 : Int32)) + b) * (2 : Int32))) - (((1 : Int32) ^^^ b) * (3 : Int32))) ^^^ (5 : Int32)) ∧ c' = (((((((((0 : Int32) + (1 : Int32)) + (1 : Int32)) + (1 : Int32)) + (1 : Int32)) + (1 : Int32)) + (1 : Int32)) + (1 : Int32)) + (1 : Int32)) ∧ t' = (mm_is (mm_is (mm_is (mm_is (mm_is (mm_is (mm_is (mm_is tr (0 : Int32) (60 : Int32)) ((0 : Int32) + (1 : Int32)) (2 : Int32)) (((0 : Int32) + (1 : Int32)) + (1 : Int32)) (41 : Int32)) ((((0 : Int32) + (1 : Int32)) + (1 : Int32)) + (1 : Int32)) (30 : Int32)) (((((0 : Int32) + (1 : Int32)) + (1 : Int32)) + (1 : Int32)) + (1 : Int32)) (10 : Int32)) ((((((0 : Int32) + (1 : Int32)) + (1 : Int32)) + (1 : Int32)) + (1 : Int32)) + (1 : Int32)) (1 : Int32)) (((((((0 : Int32) + (1 : Int32)) + (1 : Int32)) + (1 : Int32)) + (1 : Int32)) + (1 : Int32)) + (1 : Int32)) (40 : Int32)) ((((((((0 : Int32) + (1 : Int32)) + (1 : Int32)) + (1 : Int32)) + (1 : Int32)) + (1 : Int32)) + (1 : Int32)) + (1 : Int32)) (11 : Int32)) := h'
  refine ⟨r, c, t, e, ?_, ?_⟩
  · rw [e', h1.1, h1.2.1, h1.2.2, h2.1, h2.2.1, h2.2.2]
    rfl
  · rw [h1.2.2]
    simp only [is_len]
    exact hl
set_option maxRecDepth 20000 in
theorem ac_6_0 (x b : Int32) (tr : List Int32) (hl : tr.length = 24) : ∃ r c t, fX1_call 700 (fX1_run 700 42) (6 : Int32) (6 : Int32) (0 : Int32) x (0 : Int32) (0 : Int32) b tr = some (r, c, t) ∧ fX9_foldsAs 700 4 (6 : Int32) x (0 : Int32) b tr = some (r, c, t) ∧ t.length = 24 := by
  obtain ⟨⟨r, c, t⟩, e, h⟩ := ac8_6_0 x b tr hl
  obtain ⟨⟨r', c', t'⟩, e', h'⟩ := ac9_6_0 x b tr hl
  have h1 : r = (((x + b) + (3 : Int32)) * (2 : Int32)) ∧ c = ((((0 : Int32) + (1 : Int32)) + (1 : Int32)) + (1 : Int32)) ∧ t = (mm_is (mm_is (mm_is tr (0 : Int32) (mm_ig mm_OWN (((4 : Int32) * (6 : Int32)) + (0 : Int32)))) ((0 : Int32) + (1 : Int32)) (mm_ig mm_OWN (((4 : Int32) * (mm_ig mm_ABOVE (6 : Int32))) + (0 : Int32)))) (((0 : Int32) + (1 : Int32)) + (1 : Int32)) (mm_ig mm_OWN (((4 : Int32) * (mm_ig mm_ABOVE (mm_ig mm_ABOVE (6 : Int32)))) + (0 : Int32)))) := h
  have h2 : r' = (((x + b) + (3 : Int32)) * (2 : Int32)) ∧ c' = ((((0 : Int32) + (1 : Int32)) + (1 : Int32)) + (1 : Int32)) ∧ t' = (mm_is (mm_is (mm_is tr (0 : Int32) (70 : Int32)) ((0 : Int32) + (1 : Int32)) (20 : Int32)) (((0 : Int32) + (1 : Int32)) + (1 : Int32)) (1 : Int32)) := h'
  refine ⟨r, c, t, e, ?_, ?_⟩
  · rw [e', h1.1, h1.2.1, h1.2.2, h2.1, h2.2.1, h2.2.2]
    rfl
  · rw [h1.2.2]
    simp only [is_len]
    exact hl
set_option maxRecDepth 20000 in
theorem ac_6_1 (x b : Int32) (tr : List Int32) (hl : tr.length = 24) : ∃ r c t, fX1_call 700 (fX1_run 700 42) (6 : Int32) (6 : Int32) (1 : Int32) x (0 : Int32) (0 : Int32) b tr = some (r, c, t) ∧ fX9_laysAs 700 5 (6 : Int32) x (0 : Int32) (6 : Int32) b tr = some (r, c, t) ∧ t.length = 24 := by
  obtain ⟨⟨r, c, t⟩, e, h⟩ := ac8_6_1 x b tr hl
  obtain ⟨⟨r', c', t'⟩, e', h'⟩ := ac9_6_1 x b tr hl
  have h1 : r = ((((x + b) + (3 : Int32)) * (2 : Int32)) * (2 : Int32)) ∧ c = (((((0 : Int32) + (1 : Int32)) + (1 : Int32)) + (1 : Int32)) + (1 : Int32)) ∧ t = (mm_is (mm_is (mm_is (mm_is tr (0 : Int32) (mm_ig mm_OWN (((4 : Int32) * (mm_ig mm_ABOVE (mm_ig mm_ABOVE (6 : Int32)))) + (1 : Int32)))) ((0 : Int32) + (1 : Int32)) (mm_ig mm_OWN (((4 : Int32) * (6 : Int32)) + (0 : Int32)))) (((0 : Int32) + (1 : Int32)) + (1 : Int32)) (mm_ig mm_OWN (((4 : Int32) * (mm_ig mm_ABOVE (6 : Int32))) + (0 : Int32)))) ((((0 : Int32) + (1 : Int32)) + (1 : Int32)) + (1 : Int32)) (mm_ig mm_OWN (((4 : Int32) * (mm_ig mm_ABOVE (mm_ig mm_ABOVE (6 : Int32)))) + (0 : Int32)))) := h
  have h2 : r' = ((((x + b) + (3 : Int32)) * (2 : Int32)) * (2 : Int32)) ∧ c' = (((((0 : Int32) + (1 : Int32)) + (1 : Int32)) + (1 : Int32)) + (1 : Int32)) ∧ t' = (mm_is (mm_is (mm_is (mm_is tr (0 : Int32) (10 : Int32)) ((0 : Int32) + (1 : Int32)) (70 : Int32)) (((0 : Int32) + (1 : Int32)) + (1 : Int32)) (20 : Int32)) ((((0 : Int32) + (1 : Int32)) + (1 : Int32)) + (1 : Int32)) (1 : Int32)) := h'
  refine ⟨r, c, t, e, ?_, ?_⟩
  · rw [e', h1.1, h1.2.1, h1.2.2, h2.1, h2.2.1, h2.2.2]
    rfl
  · rw [h1.2.2]
    simp only [is_len]
    exact hl
set_option maxRecDepth 20000 in
theorem ac_6_2 (x b : Int32) (tr : List Int32) (hl : tr.length = 24) : ∃ r c t, fX1_call 700 (fX1_run 700 42) (6 : Int32) (6 : Int32) (2 : Int32) x (0 : Int32) (0 : Int32) b tr = some (r, c, t) ∧ fX9_wearsAs 700 4 (6 : Int32) x (0 : Int32) (6 : Int32) b tr = some (r, c, t) ∧ t.length = 24 := by
  obtain ⟨⟨r, c, t⟩, e, h⟩ := ac8_6_2 x b tr hl
  obtain ⟨⟨r', c', t'⟩, e', h'⟩ := ac9_6_2 x b tr hl
  have h1 : r = (x ^^^ b) ∧ c = ((0 : Int32) + (1 : Int32)) ∧ t = (mm_is tr (0 : Int32) (mm_ig mm_OWN (((4 : Int32) * (mm_ig mm_ABOVE (mm_ig mm_ABOVE (6 : Int32)))) + (2 : Int32)))) := h
  have h2 : r' = (x ^^^ b) ∧ c' = ((0 : Int32) + (1 : Int32)) ∧ t' = (mm_is tr (0 : Int32) (11 : Int32)) := h'
  refine ⟨r, c, t, e, ?_, ?_⟩
  · rw [e', h1.1, h1.2.1, h1.2.2, h2.1, h2.2.1, h2.2.2]
    rfl
  · rw [h1.2.2]
    simp only [is_len]
    exact hl
set_option maxRecDepth 20000 in
theorem ac_6_3 (x b : Int32) (tr : List Int32) (hl : tr.length = 24) : ∃ r c t, fX1_call 700 (fX1_run 700 42) (6 : Int32) (6 : Int32) (3 : Int32) x (0 : Int32) (0 : Int32) b tr = some (r, c, t) ∧ fX9_tellsAs 700 4 (6 : Int32) x (0 : Int32) (6 : Int32) b tr = some (r, c, t) ∧ t.length = 24 := by
  obtain ⟨⟨r, c, t⟩, e, h⟩ := ac8_6_3 x b tr hl
  obtain ⟨⟨r', c', t'⟩, e', h'⟩ := ac9_6_3 x b tr hl
  have h1 : r = (((((x + b) + (3 : Int32)) * (2 : Int32)) * (2 : Int32)) - ((1 : Int32) ^^^ b)) ∧ c = (((((((0 : Int32) + (1 : Int32)) + (1 : Int32)) + (1 : Int32)) + (1 : Int32)) + (1 : Int32)) + (1 : Int32)) ∧ t = (mm_is (mm_is (mm_is (mm_is (mm_is (mm_is tr (0 : Int32) (mm_ig mm_OWN (((4 : Int32) * (mm_ig mm_ABOVE (mm_ig mm_ABOVE (6 : Int32)))) + (3 : Int32)))) ((0 : Int32) + (1 : Int32)) (mm_ig mm_OWN (((4 : Int32) * (mm_ig mm_ABOVE (mm_ig mm_ABOVE (6 : Int32)))) + (1 : Int32)))) (((0 : Int32) + (1 : Int32)) + (1 : Int32)) (mm_ig mm_OWN (((4 : Int32) * (6 : Int32)) + (0 : Int32)))) ((((0 : Int32) + (1 : Int32)) + (1 : Int32)) + (1 : Int32)) (mm_ig mm_OWN (((4 : Int32) * (mm_ig mm_ABOVE (6 : Int32))) + (0 : Int32)))) (((((0 : Int32) + (1 : Int32)) + (1 : Int32)) + (1 : Int32)) + (1 : Int32)) (mm_ig mm_OWN (((4 : Int32) * (mm_ig mm_ABOVE (mm_ig mm_ABOVE (6 : Int32)))) + (0 : Int32)))) ((((((0 : Int32) + (1 : Int32)) + (1 : Int32)) + (1 : Int32)) + (1 : Int32)) + (1 : Int32)) (mm_ig mm_OWN (((4 : Int32) * (mm_ig mm_ABOVE (mm_ig mm_ABOVE (6 : Int32)))) + (2 : Int32)))) := h
  have h2 : r' = (((((x + b) + (3 : Int32)) * (2 : Int32)) * (2 : Int32)) - ((1 : Int32) ^^^ b)) ∧ c' = (((((((0 : Int32) + (1 : Int32)) + (1 : Int32)) + (1 : Int32)) + (1 : Int32)) + (1 : Int32)) + (1 : Int32)) ∧ t' = (mm_is (mm_is (mm_is (mm_is (mm_is (mm_is tr (0 : Int32) (2 : Int32)) ((0 : Int32) + (1 : Int32)) (10 : Int32)) (((0 : Int32) + (1 : Int32)) + (1 : Int32)) (70 : Int32)) ((((0 : Int32) + (1 : Int32)) + (1 : Int32)) + (1 : Int32)) (20 : Int32)) (((((0 : Int32) + (1 : Int32)) + (1 : Int32)) + (1 : Int32)) + (1 : Int32)) (1 : Int32)) ((((((0 : Int32) + (1 : Int32)) + (1 : Int32)) + (1 : Int32)) + (1 : Int32)) + (1 : Int32)) (11 : Int32)) := h'
  refine ⟨r, c, t, e, ?_, ?_⟩
  · rw [e', h1.1, h1.2.1, h1.2.2, h2.1, h2.2.1, h2.2.2]
    rfl
  · rw [h1.2.2]
    simp only [is_len]
    exact hl
set_option maxRecDepth 20000 in
theorem ac_7_0 (x b : Int32) (tr : List Int32) (hl : tr.length = 24) : ∃ r c t, fX1_call 700 (fX1_run 700 42) (7 : Int32) (7 : Int32) (0 : Int32) x (0 : Int32) (0 : Int32) b tr = some (r, c, t) ∧ fX9_foldsAs 700 4 (7 : Int32) x (0 : Int32) b tr = some (r, c, t) ∧ t.length = 24 := by
  obtain ⟨⟨r, c, t⟩, e, h⟩ := ac8_7_0 x b tr hl
  obtain ⟨⟨r', c', t'⟩, e', h'⟩ := ac9_7_0 x b tr hl
  have h1 : r = (x + b) ∧ c = ((0 : Int32) + (1 : Int32)) ∧ t = (mm_is tr (0 : Int32) (mm_ig mm_OWN (((4 : Int32) * (mm_ig mm_ABOVE (mm_ig mm_ABOVE (7 : Int32)))) + (0 : Int32)))) := h
  have h2 : r' = (x + b) ∧ c' = ((0 : Int32) + (1 : Int32)) ∧ t' = (mm_is tr (0 : Int32) (1 : Int32)) := h'
  refine ⟨r, c, t, e, ?_, ?_⟩
  · rw [e', h1.1, h1.2.1, h1.2.2, h2.1, h2.2.1, h2.2.2]
    rfl
  · rw [h1.2.2]
    simp only [is_len]
    exact hl
set_option maxRecDepth 20000 in
theorem ac_7_1 (x b : Int32) (tr : List Int32) (hl : tr.length = 24) : ∃ r c t, fX1_call 700 (fX1_run 700 42) (7 : Int32) (7 : Int32) (1 : Int32) x (0 : Int32) (0 : Int32) b tr = some (r, c, t) ∧ fX9_laysAs 700 5 (7 : Int32) x (0 : Int32) (7 : Int32) b tr = some (r, c, t) ∧ t.length = 24 := by
  obtain ⟨⟨r, c, t⟩, e, h⟩ := ac8_7_1 x b tr hl
  obtain ⟨⟨r', c', t'⟩, e', h'⟩ := ac9_7_1 x b tr hl
  have h1 : r = (((x + b) * (2 : Int32)) + (((2 : Int32) ^^^ b) - ((2 : Int32) + b))) ∧ c = (((((((0 : Int32) + (1 : Int32)) + (1 : Int32)) + (1 : Int32)) + (1 : Int32)) + (1 : Int32)) + (1 : Int32)) ∧ t = (mm_is (mm_is (mm_is (mm_is (mm_is (mm_is tr (0 : Int32) (mm_ig mm_OWN (((4 : Int32) * (7 : Int32)) + (1 : Int32)))) ((0 : Int32) + (1 : Int32)) (mm_ig mm_OWN (((4 : Int32) * (mm_ig mm_ABOVE (mm_ig mm_ABOVE (7 : Int32)))) + (1 : Int32)))) (((0 : Int32) + (1 : Int32)) + (1 : Int32)) (mm_ig mm_OWN (((4 : Int32) * (mm_ig mm_ABOVE (mm_ig mm_ABOVE (7 : Int32)))) + (0 : Int32)))) ((((0 : Int32) + (1 : Int32)) + (1 : Int32)) + (1 : Int32)) (mm_ig mm_OWN (((4 : Int32) * (mm_ig mm_ABOVE (7 : Int32))) + (2 : Int32)))) (((((0 : Int32) + (1 : Int32)) + (1 : Int32)) + (1 : Int32)) + (1 : Int32)) (mm_ig mm_OWN (((4 : Int32) * (mm_ig mm_ABOVE (mm_ig mm_ABOVE (7 : Int32)))) + (2 : Int32)))) ((((((0 : Int32) + (1 : Int32)) + (1 : Int32)) + (1 : Int32)) + (1 : Int32)) + (1 : Int32)) (mm_ig mm_OWN (((4 : Int32) * (mm_ig mm_ABOVE (mm_ig mm_ABOVE (7 : Int32)))) + (0 : Int32)))) := h
  have h2 : r' = (((x + b) * (2 : Int32)) + (((2 : Int32) ^^^ b) - ((2 : Int32) + b))) ∧ c' = (((((((0 : Int32) + (1 : Int32)) + (1 : Int32)) + (1 : Int32)) + (1 : Int32)) + (1 : Int32)) + (1 : Int32)) ∧ t' = (mm_is (mm_is (mm_is (mm_is (mm_is (mm_is tr (0 : Int32) (80 : Int32)) ((0 : Int32) + (1 : Int32)) (10 : Int32)) (((0 : Int32) + (1 : Int32)) + (1 : Int32)) (1 : Int32)) ((((0 : Int32) + (1 : Int32)) + (1 : Int32)) + (1 : Int32)) (50 : Int32)) (((((0 : Int32) + (1 : Int32)) + (1 : Int32)) + (1 : Int32)) + (1 : Int32)) (11 : Int32)) ((((((0 : Int32) + (1 : Int32)) + (1 : Int32)) + (1 : Int32)) + (1 : Int32)) + (1 : Int32)) (1 : Int32)) := h'
  refine ⟨r, c, t, e, ?_, ?_⟩
  · rw [e', h1.1, h1.2.1, h1.2.2, h2.1, h2.2.1, h2.2.2]
    rfl
  · rw [h1.2.2]
    simp only [is_len]
    exact hl
set_option maxRecDepth 20000 in
theorem ac_7_2 (x b : Int32) (tr : List Int32) (hl : tr.length = 24) : ∃ r c t, fX1_call 700 (fX1_run 700 42) (7 : Int32) (7 : Int32) (2 : Int32) x (0 : Int32) (0 : Int32) b tr = some (r, c, t) ∧ fX9_wearsAs 700 4 (7 : Int32) x (0 : Int32) (7 : Int32) b tr = some (r, c, t) ∧ t.length = 24 := by
  obtain ⟨⟨r, c, t⟩, e, h⟩ := ac8_7_2 x b tr hl
  obtain ⟨⟨r', c', t'⟩, e', h'⟩ := ac9_7_2 x b tr hl
  have h1 : r = ((x ^^^ b) - ((2 : Int32) + b)) ∧ c = ((((0 : Int32) + (1 : Int32)) + (1 : Int32)) + (1 : Int32)) ∧ t = (mm_is (mm_is (mm_is tr (0 : Int32) (mm_ig mm_OWN (((4 : Int32) * (mm_ig mm_ABOVE (7 : Int32))) + (2 : Int32)))) ((0 : Int32) + (1 : Int32)) (mm_ig mm_OWN (((4 : Int32) * (mm_ig mm_ABOVE (mm_ig mm_ABOVE (7 : Int32)))) + (2 : Int32)))) (((0 : Int32) + (1 : Int32)) + (1 : Int32)) (mm_ig mm_OWN (((4 : Int32) * (mm_ig mm_ABOVE (mm_ig mm_ABOVE (7 : Int32)))) + (0 : Int32)))) := h
  have h2 : r' = ((x ^^^ b) - ((2 : Int32) + b)) ∧ c' = ((((0 : Int32) + (1 : Int32)) + (1 : Int32)) + (1 : Int32)) ∧ t' = (mm_is (mm_is (mm_is tr (0 : Int32) (50 : Int32)) ((0 : Int32) + (1 : Int32)) (11 : Int32)) (((0 : Int32) + (1 : Int32)) + (1 : Int32)) (1 : Int32)) := h'
  refine ⟨r, c, t, e, ?_, ?_⟩
  · rw [e', h1.1, h1.2.1, h1.2.2, h2.1, h2.2.1, h2.2.2]
    rfl
  · rw [h1.2.2]
    simp only [is_len]
    exact hl
set_option maxRecDepth 20000 in
theorem ac_7_3 (x b : Int32) (tr : List Int32) (hl : tr.length = 24) : ∃ r c t, fX1_call 700 (fX1_run 700 42) (7 : Int32) (7 : Int32) (3 : Int32) x (0 : Int32) (0 : Int32) b tr = some (r, c, t) ∧ fX9_tellsAs 700 4 (7 : Int32) x (0 : Int32) (7 : Int32) b tr = some (r, c, t) ∧ t.length = 24 := by
  obtain ⟨⟨r, c, t⟩, e, h⟩ := ac8_7_3 x b tr hl
  obtain ⟨⟨r', c', t'⟩, e', h'⟩ := ac9_7_3 x b tr hl
  have h1 : r = (((((x + b) * (2 : Int32)) + (((2 : Int32) ^^^ b) - ((2 : Int32) + b))) - (((1 : Int32) ^^^ b) - ((2 : Int32) + b))) - (1 : Int32)) ∧ c = ((((((((((((0 : Int32) + (1 : Int32)) + (1 : Int32)) + (1 : Int32)) + (1 : Int32)) + (1 : Int32)) + (1 : Int32)) + (1 : Int32)) + (1 : Int32)) + (1 : Int32)) + (1 : Int32)) + (1 : Int32)) ∧ t = (mm_is (mm_is (mm_is (mm_is (mm_is (mm_is (mm_is (mm_is (mm_is (mm_is (mm_is tr (0 : Int32) (mm_ig mm_OWN (((4 : Int32) * (7 : Int32)) + (3 : Int32)))) ((0 : Int32) + (1 : Int32)) (mm_ig mm_OWN (((4 : Int32) * (mm_ig mm_ABOVE (mm_ig mm_ABOVE (7 : Int32)))) + (3 : Int32)))) (((0 : Int32) + (1 : Int32)) + (1 : Int32)) (mm_ig mm_OWN (((4 : Int32) * (7 : Int32)) + (1 : Int32)))) ((((0 : Int32) + (1 : Int32)) + (1 : Int32)) + (1 : Int32)) (mm_ig mm_OWN (((4 : Int32) * (mm_ig mm_ABOVE (mm_ig mm_ABOVE (7 : Int32)))) + (1 : Int32)))) (((((0 : Int32) + (1 : Int32)) + (1 : Int32)) + (1 : Int32)) + (1 : Int32)) (mm_ig mm_OWN (((4 : Int32) * (mm_ig mm_ABOVE (mm_ig mm_ABOVE (7 : Int32)))) + (0 : Int32)))) ((((((0 : Int32) + (1 : Int32)) + (1 : Int32)) + (1 : Int32)) + (1 : Int32)) + (1 : Int32)) (mm_ig mm_OWN (((4 : Int32) * (mm_ig mm_ABOVE (7 : Int32))) + (2 : Int32)))) (((((((0 : Int32) + (1 : Int32)) + (1 : Int32)) + (1 : Int32)) + (1 : Int32)) + (1 : Int32)) + (1 : Int32)) (mm_ig mm_OWN (((4 : Int32) * (mm_ig mm_ABOVE (mm_ig mm_ABOVE (7 : Int32)))) + (2 : Int32)))) ((((((((0 : Int32) + (1 : Int32)) + (1 : Int32)) + (1 : Int32)) + (1 : Int32)) + (1 : Int32)) + (1 : Int32)) + (1 : Int32)) (mm_ig mm_OWN (((4 : Int32) * (mm_ig mm_ABOVE (mm_ig mm_ABOVE (7 : Int32)))) + (0 : Int32)))) (((((((((0 : Int32) + (1 : Int32)) + (1 : Int32)) + (1 : Int32)) + (1 : Int32)) + (1 : Int32)) + (1 : Int32)) + (1 : Int32)) + (1 : Int32)) (mm_ig mm_OWN (((4 : Int32) * (mm_ig mm_ABOVE (7 : Int32))) + (2 : Int32)))) ((((((((((0 : Int32) + (1 : Int32)) + (1 : Int32)) + (1 : Int32)) + (1 : Int32)) + (1 : Int32)) + (1 : Int32)) + (1 : Int32)) + (1 : Int32)) + (1 : Int32)) (mm_ig mm_OWN (((4 : Int32) * (mm_ig mm_ABOVE (mm_ig mm_ABOVE (7 : Int32)))) + (2 : Int32)))) (((((((((((0 : Int32) + (1 : Int32)) + (1 : Int32)) + (1 : Int32)) + (1 : Int32)) + (1 : Int32)) + (1 : Int32)) + (1 : Int32)) + (1 : Int32)) + (1 : Int32)) + (1 : Int32)) (mm_ig mm_OWN (((4 : Int32) * (mm_ig mm_ABOVE (mm_ig mm_ABOVE (7 : Int32)))) + (0 : Int32)))) := h
  have h2 : r' = (((((x + b) * (2 : Int32)) + (((2 : Int32) ^^^ b) - ((2 : Int32) + b))) - (((1 : Int32) ^^^ b) - ((2 : Int32) + b))) - (1 : Int32)) ∧ c' = ((((((((((((0 : Int32) + (1 : Int32)) + (1 : Int32)) + (1 : Int32)) + (1 : Int32)) + (1 : Int32)) + (1 : Int32)) + (1 : Int32)) + (1 : Int32)) + (1 : Int32)) + (1 : Int32)) + (1 : Int32)) ∧ t' = (mm_is (mm_is (mm_is (mm_is (mm_is (mm_is (mm_is (mm_is (mm_is (mm_is (mm_is tr (0 : Int32) (81 : Int32)) ((0 : Int32) + (1 : Int32)) (2 : Int32)) (((0 : Int32) + (1 : Int32)) + (1 : Int32)) (80 : Int32)) ((((0 : Int32) + (1 : Int32)) + (1 : Int32)) + (1 : Int32)) (10 : Int32)) (((((0 : Int32) + (1 : Int32)) + (1 : Int32)) + (1 : Int32)) + (1 : Int32)) (1 : Int32)) ((((((0 : Int32) + (1 : Int32)) + (1 : Int32)) + (1 : Int32)) + (1 : Int32)) + (1 : Int32)) (50 : Int32)) (((((((0 : Int32) + (1 : Int32)) + (1 : Int32)) + (1 : Int32)) + (1 : Int32)) + (1 : Int32)) + (1 : Int32)) (11 : Int32)) ((((((((0 : Int32) + (1 : Int32)) + (1 : Int32)) + (1 : Int32)) + (1 : Int32)) + (1 : Int32)) + (1 : Int32)) + (1 : Int32)) (1 : Int32)) (((((((((0 : Int32) + (1 : Int32)) + (1 : Int32)) + (1 : Int32)) + (1 : Int32)) + (1 : Int32)) + (1 : Int32)) + (1 : Int32)) + (1 : Int32)) (50 : Int32)) ((((((((((0 : Int32) + (1 : Int32)) + (1 : Int32)) + (1 : Int32)) + (1 : Int32)) + (1 : Int32)) + (1 : Int32)) + (1 : Int32)) + (1 : Int32)) + (1 : Int32)) (11 : Int32)) (((((((((((0 : Int32) + (1 : Int32)) + (1 : Int32)) + (1 : Int32)) + (1 : Int32)) + (1 : Int32)) + (1 : Int32)) + (1 : Int32)) + (1 : Int32)) + (1 : Int32)) + (1 : Int32)) (1 : Int32)) := h'
  refine ⟨r, c, t, e, ?_, ?_⟩
  · rw [e', h1.1, h1.2.1, h1.2.2, h2.1, h2.2.1, h2.2.2]
    rfl
  · rw [h1.2.2]
    simp only [is_len]
    exact hl
end
section
/-! the acts, any kind -/
theorem k8 {z : Int32} (h0 : 0 ≤ z.toInt) (h1 : z.toInt < 8) : z = 0 ∨ z = 1 ∨ z = 2 ∨ z = 3 ∨ z = 4 ∨ z = 5 ∨ z = 6 ∨ z = 7 := by
  have f : ∀ c : Int32, z.toInt = c.toInt → z = c := fun c e => Int32.toInt_inj.mp e
  have e : z.toInt = 0 ∨ z.toInt = 1 ∨ z.toInt = 2 ∨ z.toInt = 3 ∨ z.toInt = 4 ∨ z.toInt = 5 ∨ z.toInt = 6 ∨ z.toInt = 7 := by omega
  rcases e with e | e | e | e | e | e | e | e
  · exact Or.inl (f 0 (by rw [e]; decide))
  · exact Or.inr (Or.inl (f 1 (by rw [e]; decide)))
  · exact Or.inr (Or.inr (Or.inl (f 2 (by rw [e]; decide))))
  · exact Or.inr (Or.inr (Or.inr (Or.inl (f 3 (by rw [e]; decide)))))
  · exact Or.inr (Or.inr (Or.inr (Or.inr (Or.inl (f 4 (by rw [e]; decide))))))
  · exact Or.inr (Or.inr (Or.inr (Or.inr (Or.inr (Or.inl (f 5 (by rw [e]; decide)))))))
  · exact Or.inr (Or.inr (Or.inr (Or.inr (Or.inr (Or.inr (Or.inl (f 6 (by rw [e]; decide))))))))
  · exact Or.inr (Or.inr (Or.inr (Or.inr (Or.inr (Or.inr (Or.inr (f 7 (by rw [e]; decide))))))))
theorem k4 {z : Int32} (h0 : 0 ≤ z.toInt) (h1 : z.toInt < 4) : z = 0 ∨ z = 1 ∨ z = 2 ∨ z = 3 := by
  have n0 : (4 : Int32).toInt = 4 := by decide
  have n1 : (5 : Int32).toInt = 5 := by decide
  have n2 : (6 : Int32).toInt = 6 := by decide
  have n3 : (7 : Int32).toInt = 7 := by decide
  rcases k8 h0 (by omega) with e | e | e | e | e | e | e | e
  · exact Or.inl e
  · exact Or.inr (Or.inl e)
  · exact Or.inr (Or.inr (Or.inl e))
  · exact Or.inr (Or.inr (Or.inr e))
  all_goals (exfalso; rw [e] at h1; omega)
theorem ac_0 {k : Int32} (h0 : 0 ≤ k.toInt) (h1 : k.toInt < 8) (x b : Int32) (tr : List Int32) (hl : tr.length = 24) : ∃ r c t, fX1_call 700 (fX1_run 700 42) k k (0 : Int32) x (0 : Int32) (0 : Int32) b tr = some (r, c, t) ∧ fX9_foldsAs 700 4 k x (0 : Int32) b tr = some (r, c, t) ∧ t.length = 24 := by
  rcases k8 h0 h1 with e | e | e | e | e | e | e | e
  · subst e; exact ac_0_0 x b tr hl
  · subst e; exact ac_1_0 x b tr hl
  · subst e; exact ac_2_0 x b tr hl
  · subst e; exact ac_3_0 x b tr hl
  · subst e; exact ac_4_0 x b tr hl
  · subst e; exact ac_5_0 x b tr hl
  · subst e; exact ac_6_0 x b tr hl
  · subst e; exact ac_7_0 x b tr hl
theorem ac_1 {k : Int32} (h0 : 0 ≤ k.toInt) (h1 : k.toInt < 8) (x b : Int32) (tr : List Int32) (hl : tr.length = 24) : ∃ r c t, fX1_call 700 (fX1_run 700 42) k k (1 : Int32) x (0 : Int32) (0 : Int32) b tr = some (r, c, t) ∧ fX9_laysAs 700 5 k x (0 : Int32) k b tr = some (r, c, t) ∧ t.length = 24 := by
  rcases k8 h0 h1 with e | e | e | e | e | e | e | e
  · subst e; exact ac_0_1 x b tr hl
  · subst e; exact ac_1_1 x b tr hl
  · subst e; exact ac_2_1 x b tr hl
  · subst e; exact ac_3_1 x b tr hl
  · subst e; exact ac_4_1 x b tr hl
  · subst e; exact ac_5_1 x b tr hl
  · subst e; exact ac_6_1 x b tr hl
  · subst e; exact ac_7_1 x b tr hl
theorem ac_2 {k : Int32} (h0 : 0 ≤ k.toInt) (h1 : k.toInt < 8) (x b : Int32) (tr : List Int32) (hl : tr.length = 24) : ∃ r c t, fX1_call 700 (fX1_run 700 42) k k (2 : Int32) x (0 : Int32) (0 : Int32) b tr = some (r, c, t) ∧ fX9_wearsAs 700 4 k x (0 : Int32) k b tr = some (r, c, t) ∧ t.length = 24 := by
  rcases k8 h0 h1 with e | e | e | e | e | e | e | e
  · subst e; exact ac_0_2 x b tr hl
  · subst e; exact ac_1_2 x b tr hl
  · subst e; exact ac_2_2 x b tr hl
  · subst e; exact ac_3_2 x b tr hl
  · subst e; exact ac_4_2 x b tr hl
  · subst e; exact ac_5_2 x b tr hl
  · subst e; exact ac_6_2 x b tr hl
  · subst e; exact ac_7_2 x b tr hl
theorem ac_3 {k : Int32} (h0 : 0 ≤ k.toInt) (h1 : k.toInt < 8) (x b : Int32) (tr : List Int32) (hl : tr.length = 24) : ∃ r c t, fX1_call 700 (fX1_run 700 42) k k (3 : Int32) x (0 : Int32) (0 : Int32) b tr = some (r, c, t) ∧ fX9_tellsAs 700 4 k x (0 : Int32) k b tr = some (r, c, t) ∧ t.length = 24 := by
  rcases k8 h0 h1 with e | e | e | e | e | e | e | e
  · subst e; exact ac_0_3 x b tr hl
  · subst e; exact ac_1_3 x b tr hl
  · subst e; exact ac_2_3 x b tr hl
  · subst e; exact ac_3_3 x b tr hl
  · subst e; exact ac_4_3 x b tr hl
  · subst e; exact ac_5_3 x b tr hl
  · subst e; exact ac_6_3 x b tr hl
  · subst e; exact ac_7_3 x b tr hl
theorem bk_f (N : Nat) (v_rowsOf : Int32) (v_columnsOf : Int32) (v_folded : Int32) (v_wronged : Int32) (v_imageRows : Int32) (v_imageColumns : Int32) (v_imageFolded : Int32) (v_imageWronged : Int32) (v_shapeRows : List Int32) (v_shapeColumns : List Int32) (v_row : List Int32) (v_column : List Int32) (v_below : List Int32) (v_face : List Int32) (v_worn : List Int32) (v_lastBend : List Int32) : fX9_back N v_rowsOf v_columnsOf v_folded v_wronged false v_imageRows v_imageColumns v_imageFolded v_imageWronged v_shapeRows v_shapeColumns v_row v_column v_below v_face v_worn v_lastBend = (some ((-5 : Int32), v_rowsOf, v_columnsOf, v_folded, v_wronged, v_shapeRows, v_shapeColumns, v_row, v_column, v_below, v_face, v_worn, v_lastBend)) := rfl
end
