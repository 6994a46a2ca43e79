/-! safe -/

theorem fr_tr {u v w : List Int32} {A B A' B' : Int} (h1 : fr u v A B) (h2 : fr v w A' B') (k1 : A ≤ A') (k2 : B' ≤ B) : fr u w A B := ⟨by rw [h2.1, h1.1], fun i i0 i1 i2 => by
  have e := h1.1
  rw [h2.2 i i0 (by omega) (by omega), h1.2 i i0 i1 i2]⟩
theorem fr_mono {u v : List Int32} {A B A' B' : Int} (h : fr u v A' B') (k1 : A ≤ A') (k2 : B' ≤ B) : fr u v A B := fr_tr (fr_refl u A B) h k1 k2

theorem uf_X9_startsAt_7 (N : Nat) (n : Nat) (x1 : Int32) (x2 : Int32) (v_rowsOf : Int32) (v_columnsOf : Int32) (v_shapeRows : List Int32) (v_shapeColumns : List Int32) (v_row : List Int32) (v_column : List Int32) (v_below : List Int32) (v_face : List Int32) (v_worn : List Int32) (v_lastBend : List Int32) : fX9_startsAt_7 N (n + 1) x1 x2 v_rowsOf v_columnsOf v_shapeRows v_shapeColumns v_row v_column v_below v_face v_worn v_lastBend = 
    if (64 : Int32) ≤ x2 then
    (some (v_shapeRows, v_shapeColumns, v_row, v_column, v_below, v_face, v_worn, v_lastBend))
    else (mm_ck (mm_inb x2 v_worn.length) (mm_nm ((mm_ig v_worn x2)) (fun (y_10 : Int32) =>
    mm_ck (mm_inb (((64 : Int32) * x1) + x2) v_worn.length) (mm_nm (mm_is v_worn (((64 : Int32) * x1) + x2) y_10) (fun (l_12 : List Int32) =>
    mm_ck (mm_inb x2 v_lastBend.length) (mm_nm ((mm_ig v_lastBend x2)) (fun (y_14 : Int32) =>
    mm_ck (mm_inb (((64 : Int32) * x1) + x2) v_lastBend.length) (mm_nm (mm_is v_lastBend (((64 : Int32) * x1) + x2) y_14) (fun (l_16 : List Int32) =>
    mm_nm (x2 + (1 : Int32)) (fun (y_17 : Int32) =>
    fX9_startsAt_7 N n x1 y_17 v_rowsOf v_columnsOf v_shapeRows v_shapeColumns v_row v_column v_below v_face l_12 l_16)))))))))) := rfl

set_option maxHeartbeats 4000000 in
set_option maxRecDepth 20000 in
theorem sf_X9_startsAt_7 {N : Nat} (hN : 700 ≤ N) {u_row : List Int32} {u_col : List Int32} {u_sR : List Int32} {u_sC : List Int32} {A : Int} {B9 : Int} {a9 : Int} {b9 : Int} : ∀ (n : Nat) (x1 : Int32) (x2 : Int32) (v_rowsOf : Int32) (v_columnsOf : Int32) (v_shapeRows : List Int32) (v_shapeColumns : List Int32) (v_row : List Int32) (v_column : List Int32) (v_below : List Int32) (v_face : List Int32) (v_worn : List Int32) (v_lastBend : List Int32), 1 ≤ v_rowsOf.toInt → v_rowsOf.toInt ≤ 4 → 1 ≤ v_columnsOf.toInt → v_columnsOf.toInt ≤ 8 → v_shapeRows.length = 6 → v_shapeColumns.length = 6 → v_row.length = 192 → v_column.length = 192 → v_below.length = 192 → v_face.length = 192 → v_worn.length = 384 → v_lastBend.length = 384 → 0 ≤ x1.toInt → x1.toInt ≤ 5 → fr u_row v_row A B9 → fr u_col v_column A B9 → fr u_sR v_shapeRows a9 b9 → fr u_sC v_shapeColumns a9 b9 → A ≤ 32 * x1.toInt → 32 * x1.toInt + 32 ≤ B9 → a9 ≤ x1.toInt → x1.toInt < b9 → lv9 v_rowsOf v_columnsOf v_shapeRows v_shapeColumns v_row v_column x1 → 0 ≤ x2.toInt → x2.toInt ≤ 64 → (64 - x2.toInt).toNat < n → wp (fX9_startsAt_7 N n x1 x2 v_rowsOf v_columnsOf v_shapeRows v_shapeColumns v_row v_column v_below v_face v_worn v_lastBend) (cu8 (fun (wv_shapeRows : List Int32) (wv_shapeColumns : List Int32) (wv_row : List Int32) (wv_column : List Int32) (wv_below : List Int32) (wv_face : List Int32) (wv_worn : List Int32) (wv_lastBend : List Int32) => wv_shapeRows.length = 6 ∧ wv_shapeColumns.length = 6 ∧ wv_row.length = 192 ∧ wv_column.length = 192 ∧ wv_below.length = 192 ∧ wv_face.length = 192 ∧ wv_worn.length = 384 ∧ wv_lastBend.length = 384 ∧ fr u_row wv_row A B9 ∧ fr u_col wv_column A B9 ∧ fr u_sR wv_shapeRows a9 b9 ∧ fr u_sC wv_shapeColumns a9 b9 ∧ lv9 v_rowsOf v_columnsOf wv_shapeRows wv_shapeColumns wv_row wv_column x1)) := by
  intro n
  induction n with
  | zero =>
    intro x1 x2 v_rowsOf v_columnsOf v_shapeRows v_shapeColumns v_row v_column v_below v_face v_worn v_lastBend h_0 h_1 h_2 h_3 h_4 h_5 h_6 h_7 h_8 h_9 h_10 h_11 h_12 h_13 h_14 h_15 h_16 h_17 h_18 h_19 h_20 h_21 h_22 h_23 h_24 hm
    exact absurd hm (by omega)
  | succ n ih =>
    intro x1 x2 v_rowsOf v_columnsOf v_shapeRows v_shapeColumns v_row v_column v_below v_face v_worn v_lastBend h_0 h_1 h_2 h_3 h_4 h_5 h_6 h_7 h_8 h_9 h_10 h_11 h_12 h_13 h_14 h_15 h_16 h_17 h_18 h_19 h_20 h_21 h_22 h_23 h_24 hm
    refine wp_of (uf_X9_startsAt_7 _ _ _ _ _ _ _ _ _ _ _ _ _ _) ?_
    have n_2 : (64 : Int32).toInt = 64 := by decide
    refine wp_if (fun c_1 => ?_) (fun c_1 => ?_)
    ·
      have dc_1 := i_le c_1
      exact wp_so8 ⟨h_4, h_5, h_6, h_7, h_8, h_9, h_10, h_11, h_14, h_15, h_16, h_17, h_22⟩
    ·
      have dc_1 := i_nle c_1
      refine wp_ck (i_inb (by omega) (by omega)) ?_
      refine wp_nm (fun y_10 h_y_10 => ?_)
      have t_y_10 : y_10.toInt = ((mm_ig v_worn x2)).toInt := by rw [h_y_10]
      generalize hz_z : ((64 : Int32) * x1) = z
      have e_3 := i_mulLE (c := 64) (by decide) hz_z (by omega) (by omega)
      generalize hz_z__4 : (z + x2) = z__4
      have e_5 := i_addE hz_z__4 (by omega) (by omega)
      refine wp_ck (i_inb (by omega) (by omega)) ?_
      refine wp_nm (fun l_12 h_l_12 => ?_)
      have nl_l_12 : l_12.length = 384 := by rw [h_l_12, is_len]; assumption
      refine wp_ck (i_inb (by omega) (by omega)) ?_
      refine wp_nm (fun y_14 h_y_14 => ?_)
      have t_y_14 : y_14.toInt = ((mm_ig v_lastBend x2)).toInt := by rw [h_y_14]
      refine wp_ck (i_inb (by omega) (by omega)) ?_
      refine wp_nm (fun l_16 h_l_16 => ?_)
      have nl_l_16 : l_16.length = 384 := by rw [h_l_16, is_len]; assumption
      have n_6 : (1 : Int32).toInt = 1 := by decide
      refine wp_nm (fun y_17 h_y_17 => ?_)
      have e_7 := i_addE h_y_17.symm (by omega) (by omega)
      exact ih _ _ _ _ _ _ _ _ _ _ _ _ h_0 h_1 h_2 h_3 h_4 h_5 h_6 h_7 h_8 h_9 nl_l_12 nl_l_16 h_12 h_13 h_14 h_15 h_16 h_17 h_18 h_19 h_20 h_21 h_22 (by omega) (by omega) (by omega)

theorem uf_X9_startsAt (N : Nat) (x1 : Int32) (v_rowsOf : Int32) (v_columnsOf : Int32) (v_shapeRows : List Int32) (v_shapeColumns : List Int32) (v_row : List Int32) (v_column : List Int32) (v_below : List Int32) (v_face : List Int32) (v_worn : List Int32) (v_lastBend : List Int32) : fX9_startsAt N x1 v_rowsOf v_columnsOf v_shapeRows v_shapeColumns v_row v_column v_below v_face v_worn v_lastBend = mm_bd6 (fX9_liesFlat N x1 v_rowsOf v_columnsOf v_shapeRows v_shapeColumns v_row v_column v_below v_face) (fun (w_1 : List Int32) (w_2 : List Int32) (w_3 : List Int32) (w_4 : List Int32) (w_5 : List Int32) (w_6 : List Int32) =>
    fX9_startsAt_7 N N x1 (0 : Int32) v_rowsOf v_columnsOf w_1 w_2 w_3 w_4 w_5 w_6 v_worn v_lastBend) := rfl

set_option maxHeartbeats 4000000 in
set_option maxRecDepth 20000 in
theorem sf_X9_startsAt {N : Nat} (hN : 700 ≤ N) {u_row : List Int32} {u_col : List Int32} {u_sR : List Int32} {u_sC : List Int32} {A : Int} {B9 : Int} {a9 : Int} {b9 : Int} {x1 : Int32} {v_rowsOf : Int32} {v_columnsOf : Int32} {v_shapeRows : List Int32} {v_shapeColumns : List Int32} {v_row : List Int32} {v_column : List Int32} {v_below : List Int32} {v_face : List Int32} {v_worn : List Int32} {v_lastBend : List Int32} (h_0 : 1 ≤ v_rowsOf.toInt) (h_1 : v_rowsOf.toInt ≤ 4) (h_2 : 1 ≤ v_columnsOf.toInt) (h_3 : v_columnsOf.toInt ≤ 8) (h_4 : v_shapeRows.length = 6) (h_5 : v_shapeColumns.length = 6) (h_6 : v_row.length = 192) (h_7 : v_column.length = 192) (h_8 : v_below.length = 192) (h_9 : v_face.length = 192) (h_10 : v_worn.length = 384) (h_11 : v_lastBend.length = 384) (h_12 : 0 ≤ x1.toInt) (h_13 : x1.toInt ≤ 5) (h_14 : fr u_row v_row A B9) (h_15 : fr u_col v_column A B9) (h_16 : fr u_sR v_shapeRows a9 b9) (h_17 : fr u_sC v_shapeColumns a9 b9) (h_18 : A ≤ 32 * x1.toInt) (h_19 : 32 * x1.toInt + 32 ≤ B9) (h_20 : a9 ≤ x1.toInt) (h_21 : x1.toInt < b9) : wp (fX9_startsAt N x1 v_rowsOf v_columnsOf v_shapeRows v_shapeColumns v_row v_column v_below v_face v_worn v_lastBend) (cu8 (fun (wv_shapeRows : List Int32) (wv_shapeColumns : List Int32) (wv_row : List Int32) (wv_column : List Int32) (wv_below : List Int32) (wv_face : List Int32) (wv_worn : List Int32) (wv_lastBend : List Int32) => wv_shapeRows.length = 6 ∧ wv_shapeColumns.length = 6 ∧ wv_row.length = 192 ∧ wv_column.length = 192 ∧ wv_below.length = 192 ∧ wv_face.length = 192 ∧ wv_worn.length = 384 ∧ wv_lastBend.length = 384 ∧ fr u_row wv_row A B9 ∧ fr u_col wv_column A B9 ∧ fr u_sR wv_shapeRows a9 b9 ∧ fr u_sC wv_shapeColumns a9 b9 ∧ lv9 v_rowsOf v_columnsOf wv_shapeRows wv_shapeColumns wv_row wv_column x1)) := by
  have m3 := (i_fl (a := v_rowsOf) (b := v_columnsOf) (by omega) (by omega) (by omega) (by omega)).2
  refine wp_of (uf_X9_startsAt _ _ _ _ _ _ _ _ _ _ _ _) ?_
  refine wp_bd6 (sf_X9_liesFlat (u_row := u_row) (u_col := u_col) (u_sR := u_sR) (u_sC := u_sC) (A := A) (B9 := B9) (a9 := a9) (b9 := b9) hN h_0 h_1 h_2 h_3 h_4 h_5 h_6 h_7 h_8 h_9 h_12 h_13 h_14 h_15 h_16 h_17 h_18 h_19 h_20 h_21) (fun w_1 w_2 w_3 w_4 w_5 w_6 ⟨q_1, q_2, q_3, q_4, q_5, q_6, q_7, q_8, q_9, q_10, q_11⟩ => ?_)
  have n_12 : (0 : Int32).toInt = 0 := by decide
  exact sf_X9_startsAt_7 (u_row := u_row) (u_col := u_col) (u_sR := u_sR) (u_sC := u_sC) (A := A) (B9 := B9) (a9 := a9) (b9 := b9) hN _ _ _ _ _ _ _ _ _ _ _ _ _ h_0 h_1 h_2 h_3 q_1 q_2 q_3 q_4 q_5 q_6 h_10 h_11 h_12 h_13 q_7 q_8 q_9 q_10 h_18 h_19 h_20 h_21 q_11 (by omega) (by omega) (by omega)

theorem uf_X9_isNew_17 (N : Nat) (n : Nat) (x3 : Int32) (v_rowsOf : Int32) (v_columnsOf : Int32) (v_folded : Int32) (v_wronged : Int32) (v_shapeRows : List Int32) (v_shapeColumns : List Int32) (v_row : List Int32) (v_column : List Int32) (v_below : List Int32) (v_face : List Int32) (v_worn : List Int32) (v_lastBend : List Int32) : fX9_isNew_17 N (n + 1) x3 v_rowsOf v_columnsOf v_folded v_wronged v_shapeRows v_shapeColumns v_row v_column v_below v_face v_worn v_lastBend = 
    if (64 : Int32) ≤ x3 then
    (some (v_rowsOf, v_columnsOf, (0 : Int32), (0 : Int32), v_shapeRows, v_shapeColumns, v_row, v_column, v_below, v_face, v_worn, v_lastBend))
    else (mm_ck (mm_inb x3 v_worn.length) (mm_nm (mm_is v_worn x3 (0 : Int32)) (fun (l_10 : List Int32) =>
    mm_ck (mm_inb x3 v_lastBend.length) (mm_nm (mm_is v_lastBend x3 (0 : Int32)) (fun (l_12 : List Int32) =>
    mm_nm (x3 + (1 : Int32)) (fun (y_13 : Int32) =>
    fX9_isNew_17 N n y_13 v_rowsOf v_columnsOf v_folded v_wronged v_shapeRows v_shapeColumns v_row v_column v_below v_face l_10 l_12)))))) := rfl

set_option maxHeartbeats 4000000 in
set_option maxRecDepth 20000 in
theorem sf_X9_isNew_17 {N : Nat} (hN : 700 ≤ N) {u_row : List Int32} {u_col : List Int32} {u_sR : List Int32} {u_sC : List Int32} {A : Int} {B9 : Int} {a9 : Int} {b9 : Int} : ∀ (n : Nat) (x3 : Int32) (v_rowsOf : Int32) (v_columnsOf : Int32) (v_folded : Int32) (v_wronged : Int32) (v_shapeRows : List Int32) (v_shapeColumns : List Int32) (v_row : List Int32) (v_column : List Int32) (v_below : List Int32) (v_face : List Int32) (v_worn : List Int32) (v_lastBend : List Int32), 1 ≤ v_rowsOf.toInt → v_rowsOf.toInt ≤ 4 → 1 ≤ v_columnsOf.toInt → v_columnsOf.toInt ≤ 8 → v_shapeRows.length = 6 → v_shapeColumns.length = 6 → v_row.length = 192 → v_column.length = 192 → v_below.length = 192 → v_face.length = 192 → v_worn.length = 384 → v_lastBend.length = 384 → fr u_row v_row A B9 → fr u_col v_column A B9 → fr u_sR v_shapeRows a9 b9 → fr u_sC v_shapeColumns a9 b9 → A ≤ 32 * (0 : Int32).toInt → 32 * (0 : Int32).toInt + 32 ≤ B9 → a9 ≤ (0 : Int32).toInt → (0 : Int32).toInt < b9 → lv9 v_rowsOf v_columnsOf v_shapeRows v_shapeColumns v_row v_column (0 : Int32) → 0 ≤ x3.toInt → x3.toInt ≤ 64 → (64 - x3.toInt).toNat < n → wp (fX9_isNew_17 N n x3 v_rowsOf v_columnsOf v_folded v_wronged v_shapeRows v_shapeColumns v_row v_column v_below v_face v_worn v_lastBend) (cu12 (fun (wv_rowsOf : Int32) (wv_columnsOf : Int32) (wv_folded : Int32) (wv_wronged : Int32) (wv_shapeRows : List Int32) (wv_shapeColumns : List Int32) (wv_row : List Int32) (wv_column : List Int32) (wv_below : List Int32) (wv_face : List Int32) (wv_worn : List Int32) (wv_lastBend : List Int32) => 1 ≤ wv_rowsOf.toInt ∧ wv_rowsOf.toInt ≤ 4 ∧ 1 ≤ wv_columnsOf.toInt ∧ wv_columnsOf.toInt ≤ 8 ∧ wv_shapeRows.length = 6 ∧ wv_shapeColumns.length = 6 ∧ wv_row.length = 192 ∧ wv_column.length = 192 ∧ wv_below.length = 192 ∧ wv_face.length = 192 ∧ wv_worn.length = 384 ∧ wv_lastBend.length = 384 ∧ fr u_row wv_row A B9 ∧ fr u_col wv_column A B9 ∧ fr u_sR wv_shapeRows a9 b9 ∧ fr u_sC wv_shapeColumns a9 b9 ∧ lv9 wv_rowsOf wv_columnsOf wv_shapeRows wv_shapeColumns wv_row wv_column (0 : Int32))) := by
  intro n
  induction n with
  | zero =>
    intro x3 v_rowsOf v_columnsOf v_folded v_wronged v_shapeRows v_shapeColumns v_row v_column v_below v_face v_worn v_lastBend h_0 h_1 h_2 h_3 h_4 h_5 h_6 h_7 h_8 h_9 h_10 h_11 h_12 h_13 h_14 h_15 h_16 h_17 h_18 h_19 h_20 h_21 h_22 hm
    exact absurd hm (by omega)
  | succ n ih =>
    intro x3 v_rowsOf v_columnsOf v_folded v_wronged v_shapeRows v_shapeColumns v_row v_column v_below v_face v_worn v_lastBend h_0 h_1 h_2 h_3 h_4 h_5 h_6 h_7 h_8 h_9 h_10 h_11 h_12 h_13 h_14 h_15 h_16 h_17 h_18 h_19 h_20 h_21 h_22 hm
    refine wp_of (uf_X9_isNew_17 _ _ _ _ _ _ _ _ _ _ _ _ _ _ _) ?_
    have n_2 : (64 : Int32).toInt = 64 := by decide
    refine wp_if (fun c_1 => ?_) (fun c_1 => ?_)
    ·
      have dc_1 := i_le c_1
      exact wp_so12 ⟨h_0, h_1, h_2, h_3, h_4, h_5, h_6, h_7, h_8, h_9, h_10, h_11, h_12, h_13, h_14, h_15, h_20⟩
    ·
      have dc_1 := i_nle c_1
      refine wp_ck (i_inb (by omega) (by omega)) ?_
      have n_3 : (0 : Int32).toInt = 0 := by decide
      refine wp_nm (fun l_10 h_l_10 => ?_)
      have nl_l_10 : l_10.length = 384 := by rw [h_l_10, is_len]; assumption
      refine wp_ck (i_inb (by omega) (by omega)) ?_
      refine wp_nm (fun l_12 h_l_12 => ?_)
      have nl_l_12 : l_12.length = 384 := by rw [h_l_12, is_len]; assumption
      have n_4 : (1 : Int32).toInt = 1 := by decide
      refine wp_nm (fun y_13 h_y_13 => ?_)
      have e_5 := i_addE h_y_13.symm (by omega) (by omega)
      exact ih _ _ _ _ _ _ _ _ _ _ _ _ _ h_0 h_1 h_2 h_3 h_4 h_5 h_6 h_7 h_8 h_9 nl_l_10 nl_l_12 h_12 h_13 h_14 h_15 h_16 h_17 h_18 h_19 h_20 (by omega) (by omega) (by omega)

theorem uf_X9_isNew (N : Nat) (x1 : Int32) (x2 : Int32) (v_rowsOf : Int32) (v_columnsOf : Int32) (v_folded : Int32) (v_wronged : Int32) (v_shapeRows : List Int32) (v_shapeColumns : List Int32) (v_row : List Int32) (v_column : List Int32) (v_below : List Int32) (v_face : List Int32) (v_worn : List Int32) (v_lastBend : List Int32) : fX9_isNew N x1 x2 v_rowsOf v_columnsOf v_folded v_wronged v_shapeRows v_shapeColumns v_row v_column v_below v_face v_worn v_lastBend = mm_bd6 (fX9_liesFlat N (0 : Int32) x1 x2 v_shapeRows v_shapeColumns v_row v_column v_below v_face) (fun (w_1 : List Int32) (w_2 : List Int32) (w_3 : List Int32) (w_4 : List Int32) (w_5 : List Int32) (w_6 : List Int32) =>
    fX9_isNew_17 N N (0 : Int32) x1 x2 v_folded v_wronged w_1 w_2 w_3 w_4 w_5 w_6 v_worn v_lastBend) := rfl

set_option maxHeartbeats 4000000 in
set_option maxRecDepth 20000 in
theorem sf_X9_isNew {N : Nat} (hN : 700 ≤ N) {u_row : List Int32} {u_col : List Int32} {u_sR : List Int32} {u_sC : List Int32} {A : Int} {B9 : Int} {a9 : Int} {b9 : Int} {x1 : Int32} {x2 : Int32} {v_rowsOf : Int32} {v_columnsOf : Int32} {v_folded : Int32} {v_wronged : Int32} {v_shapeRows : List Int32} {v_shapeColumns : List Int32} {v_row : List Int32} {v_column : List Int32} {v_below : List Int32} {v_face : List Int32} {v_worn : List Int32} {v_lastBend : List Int32} (h_0 : 1 ≤ v_rowsOf.toInt) (h_1 : v_rowsOf.toInt ≤ 4) (h_2 : 1 ≤ v_columnsOf.toInt) (h_3 : v_columnsOf.toInt ≤ 8) (h_4 : v_shapeRows.length = 6) (h_5 : v_shapeColumns.length = 6) (h_6 : v_row.length = 192) (h_7 : v_column.length = 192) (h_8 : v_below.length = 192) (h_9 : v_face.length = 192) (h_10 : v_worn.length = 384) (h_11 : v_lastBend.length = 384) (h_12 : 1 ≤ x1.toInt) (h_13 : x1.toInt ≤ 4) (h_14 : 1 ≤ x2.toInt) (h_15 : x2.toInt ≤ 8) (h_16 : fr u_row v_row A B9) (h_17 : fr u_col v_column A B9) (h_18 : fr u_sR v_shapeRows a9 b9) (h_19 : fr u_sC v_shapeColumns a9 b9) (h_20 : A ≤ 32 * (0 : Int32).toInt) (h_21 : 32 * (0 : Int32).toInt + 32 ≤ B9) (h_22 : a9 ≤ (0 : Int32).toInt) (h_23 : (0 : Int32).toInt < b9) : wp (fX9_isNew N x1 x2 v_rowsOf v_columnsOf v_folded v_wronged v_shapeRows v_shapeColumns v_row v_column v_below v_face v_worn v_lastBend) (cu12 (fun (wv_rowsOf : Int32) (wv_columnsOf : Int32) (wv_folded : Int32) (wv_wronged : Int32) (wv_shapeRows : List Int32) (wv_shapeColumns : List Int32) (wv_row : List Int32) (wv_column : List Int32) (wv_below : List Int32) (wv_face : List Int32) (wv_worn : List Int32) (wv_lastBend : List Int32) => 1 ≤ wv_rowsOf.toInt ∧ wv_rowsOf.toInt ≤ 4 ∧ 1 ≤ wv_columnsOf.toInt ∧ wv_columnsOf.toInt ≤ 8 ∧ wv_shapeRows.length = 6 ∧ wv_shapeColumns.length = 6 ∧ wv_row.length = 192 ∧ wv_column.length = 192 ∧ wv_below.length = 192 ∧ wv_face.length = 192 ∧ wv_worn.length = 384 ∧ wv_lastBend.length = 384 ∧ fr u_row wv_row A B9 ∧ fr u_col wv_column A B9 ∧ fr u_sR wv_shapeRows a9 b9 ∧ fr u_sC wv_shapeColumns a9 b9 ∧ lv9 wv_rowsOf wv_columnsOf wv_shapeRows wv_shapeColumns wv_row wv_column (0 : Int32))) := by
  refine wp_of (uf_X9_isNew _ _ _ _ _ _ _ _ _ _ _ _ _ _ _) ?_
  have n_1 : (0 : Int32).toInt = 0 := by decide
  refine wp_bd6 (sf_X9_liesFlat (u_row := u_row) (u_col := u_col) (u_sR := u_sR) (u_sC := u_sC) (A := A) (B9 := B9) (a9 := a9) (b9 := b9) hN h_12 h_13 h_14 h_15 h_4 h_5 h_6 h_7 h_8 h_9 (by omega) (by omega) h_16 h_17 h_18 h_19 h_20 h_21 h_22 h_23) (fun w_1 w_2 w_3 w_4 w_5 w_6 ⟨q_2, q_3, q_4, q_5, q_6, q_7, q_8, q_9, q_10, q_11, q_12⟩ => ?_)
  exact sf_X9_isNew_17 (u_row := u_row) (u_col := u_col) (u_sR := u_sR) (u_sC := u_sC) (A := A) (B9 := B9) (a9 := a9) (b9 := b9) hN _ _ _ _ _ _ _ _ _ _ _ _ _ _ h_12 h_13 h_14 h_15 q_2 q_3 q_4 q_5 q_6 q_7 h_10 h_11 q_8 q_9 q_10 q_11 h_20 h_21 h_22 h_23 q_12 (by omega) (by omega) (by omega)

theorem uf_X9_sheet (N : Nat) (x1 : Int32) (v_rowsOf : Int32) (v_columnsOf : Int32) (v_folded : Int32) (v_wronged : Int32) (v_shapeRows : List Int32) (v_shapeColumns : List Int32) (v_row : List Int32) (v_column : List Int32) (v_below : List Int32) (v_face : List Int32) (v_worn : List Int32) (v_lastBend : List Int32) : fX9_sheet N x1 v_rowsOf v_columnsOf v_folded v_wronged v_shapeRows v_shapeColumns v_row v_column v_below v_face v_worn v_lastBend = if x1 < 0 then
    (some ((-1 : Int32), v_rowsOf, v_columnsOf, v_folded, v_wronged, v_shapeRows, v_shapeColumns, v_row, v_column, v_below, v_face, v_worn, v_lastBend))
    else (mm_ck (mm_nz (10 : Int32)) (mm_bd1 (fX9_within N ((x1 / (10 : Int32)).toInt64) (1 : Int64) (4 : Int64)) (fun (r_3 : Bool) =>
    if r_3 = false then
    (some ((-1 : Int32), v_rowsOf, v_columnsOf, v_folded, v_wronged, v_shapeRows, v_shapeColumns, v_row, v_column, v_below, v_face, v_worn, v_lastBend))
    else (mm_ck (mm_nz (10 : Int32)) (mm_bd1 (fX9_within N ((mm_rem x1 (10 : Int32)).toInt64) (1 : Int64) (8 : Int64)) (fun (r_7 : Bool) =>
    if r_7 = false then
    (some ((-1 : Int32), v_rowsOf, v_columnsOf, v_folded, v_wronged, v_shapeRows, v_shapeColumns, v_row, v_column, v_below, v_face, v_worn, v_lastBend))
    else (mm_nm ((((10 : Int32) * v_rowsOf) + v_columnsOf)) (fun (y_10 : Int32) =>
    mm_ck (mm_nz (10 : Int32)) (mm_ck (mm_nz (10 : Int32)) (mm_bd12 (fX9_isNew N (x1 / (10 : Int32)) (mm_rem x1 (10 : Int32)) v_rowsOf v_columnsOf v_folded v_wronged v_shapeRows v_shapeColumns v_row v_column v_below v_face v_worn v_lastBend) (fun (w_13 : Int32) (w_14 : Int32) (w_15 : Int32) (w_16 : Int32) (w_17 : List Int32) (w_18 : List Int32) (w_19 : List Int32) (w_20 : List Int32) (w_21 : List Int32) (w_22 : List Int32) (w_23 : List Int32) (w_24 : List Int32) =>
    some (y_10, w_13, w_14, w_15, w_16, w_17, w_18, w_19, w_20, w_21, w_22, w_23, w_24)))))))))))) := rfl

set_option maxHeartbeats 4000000 in
set_option maxRecDepth 20000 in
theorem sf_X9_sheet {N : Nat} (hN : 700 ≤ N) {u_row : List Int32} {u_col : List Int32} {u_sR : List Int32} {u_sC : List Int32} {A : Int} {B9 : Int} {a9 : Int} {b9 : Int} {x1 : Int32} {v_rowsOf : Int32} {v_columnsOf : Int32} {v_folded : Int32} {v_wronged : Int32} {v_shapeRows : List Int32} {v_shapeColumns : List Int32} {v_row : List Int32} {v_column : List Int32} {v_below : List Int32} {v_face : List Int32} {v_worn : List Int32} {v_lastBend : List Int32} (h_0 : 1 ≤ v_rowsOf.toInt) (h_1 : v_rowsOf.toInt ≤ 4) (h_2 : 1 ≤ v_columnsOf.toInt) (h_3 : v_columnsOf.toInt ≤ 8) (h_4 : v_shapeRows.length = 6) (h_5 : v_shapeColumns.length = 6) (h_6 : v_row.length = 192) (h_7 : v_column.length = 192) (h_8 : v_below.length = 192) (h_9 : v_face.length = 192) (h_10 : v_worn.length = 384) (h_11 : v_lastBend.length = 384) (h_12 : fr u_row v_row A B9) (h_13 : fr u_col v_column A B9) (h_14 : fr u_sR v_shapeRows a9 b9) (h_15 : fr u_sC v_shapeColumns a9 b9) (h_16 : A ≤ 32 * (0 : Int32).toInt) (h_17 : 32 * (0 : Int32).toInt + 32 ≤ B9) (h_18 : a9 ≤ (0 : Int32).toInt) (h_19 : (0 : Int32).toInt < b9) (h_20 : lv9 v_rowsOf v_columnsOf v_shapeRows v_shapeColumns v_row v_column (0 : Int32)) : wp (fX9_sheet N x1 v_rowsOf v_columnsOf v_folded v_wronged v_shapeRows v_shapeColumns v_row v_column v_below v_face v_worn v_lastBend) (cu13 (fun (r : Int32) (wv_rowsOf : Int32) (wv_columnsOf : Int32) (wv_folded : Int32) (wv_wronged : Int32) (wv_shapeRows : List Int32) (wv_shapeColumns : List Int32) (wv_row : List Int32) (wv_column : List Int32) (wv_below : List Int32) (wv_face : List Int32) (wv_worn : List Int32) (wv_lastBend : List Int32) => 1 ≤ wv_rowsOf.toInt ∧ wv_rowsOf.toInt ≤ 4 ∧ 1 ≤ wv_columnsOf.toInt ∧ wv_columnsOf.toInt ≤ 8 ∧ wv_shapeRows.length = 6 ∧ wv_shapeColumns.length = 6 ∧ wv_row.length = 192 ∧ wv_column.length = 192 ∧ wv_below.length = 192 ∧ wv_face.length = 192 ∧ wv_worn.length = 384 ∧ wv_lastBend.length = 384 ∧ fr u_row wv_row A B9 ∧ fr u_col wv_column A B9 ∧ fr u_sR wv_shapeRows a9 b9 ∧ fr u_sC wv_shapeColumns a9 b9 ∧ lv9 wv_rowsOf wv_columnsOf wv_shapeRows wv_shapeColumns wv_row wv_column (0 : Int32))) := by
  refine wp_of (uf_X9_sheet _ _ _ _ _ _ _ _ _ _ _ _ _ _) ?_
  have n_2 : (0 : Int32).toInt = 0 := by decide
  refine wp_if (fun c_1 => ?_) (fun c_1 => ?_)
  ·
    have dc_1 := i_lt c_1
    exact wp_so13 ⟨h_0, h_1, h_2, h_3, h_4, h_5, h_6, h_7, h_8, h_9, h_10, h_11, h_12, h_13, h_14, h_15, h_20⟩
  ·
    have dc_1 := i_nlt c_1
    have n_3 : (10 : Int32).toInt = 10 := by decide
    refine wp_ck (i_nz (by omega)) ?_
    generalize hz_z : (x1 / (10 : Int32)) = z
    have e_4 := i_divL (c := 10) (by decide) (by decide) hz_z
    have n_5 := i_64 z
    have n_6 : (1 : Int64).toInt = 1 := by decide
    have n_7 : (4 : Int64).toInt = 4 := by decide
    refine wp_bd1 (sf_X9_within hN ) (fun r_3 q_8 => ?_)
    rcases q_8 with ⟨rfl, q_8⟩ | ⟨rfl, q_8⟩
    ·
      refine wp_ifn (by decide) ?_
      refine wp_ck (i_nz (by omega)) ?_
      generalize hz_z__9 : (mm_rem x1 (10 : Int32)) = z__9
      have e_10 := i_remL (c := 10) (by decide) (by decide) hz_z__9
      have n_11 := i_64 z__9
      have n_12 : (8 : Int64).toInt = 8 := by decide
      refine wp_bd1 (sf_X9_within hN ) (fun r_7 q_13 => ?_)
      rcases q_13 with ⟨rfl, q_13⟩ | ⟨rfl, q_13⟩
      ·
        refine wp_ifn (by decide) ?_
        generalize hz_z__14 : ((10 : Int32) * v_rowsOf) = z__14
        have e_15 := i_mulLE (c := 10) (by decide) hz_z__14 (by omega) (by omega)
        refine wp_nm (fun y_10 h_y_10 => ?_)
        have e_16 := i_addE h_y_10.symm (by omega) (by omega)
        refine wp_ck (i_nz (by omega)) ?_
        refine wp_ck (i_nz (by omega)) ?_
        refine wp_bd12 (sf_X9_isNew (u_row := u_row) (u_col := u_col) (u_sR := u_sR) (u_sC := u_sC) (A := A) (B9 := B9) (a9 := a9) (b9 := b9) hN h_0 h_1 h_2 h_3 h_4 h_5 h_6 h_7 h_8 h_9 h_10 h_11 (by omega) (by omega) (by omega) (by omega) h_12 h_13 h_14 h_15 h_16 h_17 h_18 h_19) (fun w_13 w_14 w_15 w_16 w_17 w_18 w_19 w_20 w_21 w_22 w_23 w_24 ⟨q_17, q_18, q_19, q_20, q_21, q_22, q_23, q_24, q_25, q_26, q_27, q_28, q_29, q_30, q_31, q_32, q_33⟩ => ?_)
        exact wp_so13 ⟨q_17, q_18, q_19, q_20, q_21, q_22, q_23, q_24, q_25, q_26, q_27, q_28, q_29, q_30, q_31, q_32, q_33⟩
      ·
        refine wp_ifp (by decide) ?_
        exact wp_so13 ⟨h_0, h_1, h_2, h_3, h_4, h_5, h_6, h_7, h_8, h_9, h_10, h_11, h_12, h_13, h_14, h_15, h_20⟩
    ·
      refine wp_ifp (by decide) ?_
      exact wp_so13 ⟨h_0, h_1, h_2, h_3, h_4, h_5, h_6, h_7, h_8, h_9, h_10, h_11, h_12, h_13, h_14, h_15, h_20⟩

theorem uf_X9_fold (N : Nat) (x1 : Int32) (x2 : Int32) (v_rowsOf : Int32) (v_columnsOf : Int32) (v_folded : Int32) (v_wronged : Int32) (v_textMany : Int32) (v_base : Int32) (v_at : Int32) (v_ends : Int32) (v_fault : Int32) (v_opened : Int32) (v_bentMany : Int32) (v_bentWrong : Int32) (v_moreWorn : Int32) (v_limit : List Int32) (v_shapeRows : List Int32) (v_shapeColumns : List Int32) (v_row : List Int32) (v_column : List Int32) (v_below : List Int32) (v_face : List Int32) (v_worn : List Int32) (v_lastBend : List Int32) (v_tape : List Int32) (v_text : List Int32) (v_names : List Int32) (v_bends : List Int32) (v_high : List Int32) (v_to : List Int32) (v_pileSize : List Int32) : fX9_fold N x1 x2 v_rowsOf v_columnsOf v_folded v_wronged v_textMany v_base v_at v_ends v_fault v_opened v_bentMany v_bentWrong v_moreWorn v_limit v_shapeRows v_shapeColumns v_row v_column v_below v_face v_worn v_lastBend v_tape v_text v_names v_bends v_high v_to v_pileSize = mm_bd1 (fX9_within N ((x2).toInt64) (0 : Int64) (7 : Int64)) (fun (r_1 : Bool) =>
    if r_1 = false then
    (some ((-1 : Int32), v_folded, v_wronged, v_base, v_at, v_ends, v_fault, v_opened, v_bentMany, v_bentWrong, v_moreWorn, v_shapeRows, v_shapeColumns, v_row, v_column, v_below, v_face, v_worn, v_lastBend, v_names, v_bends, v_high, v_to, v_pileSize))
    else (mm_bd1 (fX9_isLine N (0 : Int32) x1 x2 v_shapeRows v_shapeColumns) (fun (r_4 : Bool) =>
    if r_4 = false then
    (some ((-2 : Int32), v_folded, v_wronged, v_base, v_at, v_ends, v_fault, v_opened, v_bentMany, v_bentWrong, v_moreWorn, v_shapeRows, v_shapeColumns, v_row, v_column, v_below, v_face, v_worn, v_lastBend, v_names, v_bends, v_high, v_to, v_pileSize))
    else (mm_bd21 (fX9_foldsOn N (0 : Int32) x1 x2 v_rowsOf v_columnsOf v_textMany v_base v_at v_ends v_fault v_opened v_bentMany v_bentWrong v_moreWorn v_limit v_shapeRows v_shapeColumns v_row v_column v_below v_face v_worn v_lastBend v_tape v_text v_names v_bends v_high v_to v_pileSize) (fun (w_7 : Int32) (w_8 : Int32) (w_9 : Int32) (w_10 : Int32) (w_11 : Int32) (w_12 : Int32) (w_13 : Int32) (w_14 : Int32) (w_15 : List Int32) (w_16 : List Int32) (w_17 : List Int32) (w_18 : List Int32) (w_19 : List Int32) (w_20 : List Int32) (w_21 : List Int32) (w_22 : List Int32) (w_23 : List Int32) (w_24 : List Int32) (w_25 : List Int32) (w_26 : List Int32) (w_27 : List Int32) =>
    mm_nm ((v_folded + (1 : Int32))) (fun (y_29 : Int32) =>
    mm_nm ((v_wronged + w_13)) (fun (y_30 : Int32) =>
    some (w_12, y_29, y_30, w_7, w_8, w_9, w_10, w_11, w_12, w_13, w_14, w_15, w_16, w_17, w_18, w_19, w_20, w_21, w_22, w_23, w_24, w_25, w_26, w_27)))))))) := rfl

set_option maxHeartbeats 4000000 in
set_option maxRecDepth 20000 in
theorem sf_X9_fold {N : Nat} (hN : 700 ≤ N) {u_row : List Int32} {u_col : List Int32} {u_sR : List Int32} {u_sC : List Int32} {A : Int} {B9 : Int} {a9 : Int} {b9 : Int} {x1 : Int32} {x2 : Int32} {v_rowsOf : Int32} {v_columnsOf : Int32} {v_folded : Int32} {v_wronged : Int32} {v_textMany : Int32} {v_base : Int32} {v_at : Int32} {v_ends : Int32} {v_fault : Int32} {v_opened : Int32} {v_bentMany : Int32} {v_bentWrong : Int32} {v_moreWorn : Int32} {v_limit : List Int32} {v_shapeRows : List Int32} {v_shapeColumns : List Int32} {v_row : List Int32} {v_column : List Int32} {v_below : List Int32} {v_face : List Int32} {v_worn : List Int32} {v_lastBend : List Int32} {v_tape : List Int32} {v_text : List Int32} {v_names : List Int32} {v_bends : List Int32} {v_high : List Int32} {v_to : List Int32} {v_pileSize : List Int32} (h_0 : 1 ≤ v_rowsOf.toInt) (h_1 : v_rowsOf.toInt ≤ 4) (h_2 : 1 ≤ v_columnsOf.toInt) (h_3 : v_columnsOf.toInt ≤ 8) (h_4 : -1 ≤ v_textMany.toInt) (h_5 : v_textMany.toInt ≤ 120) (h_6 : v_limit.length = 1) (h_7 : v_shapeRows.length = 6) (h_8 : v_shapeColumns.length = 6) (h_9 : v_row.length = 192) (h_10 : v_column.length = 192) (h_11 : v_below.length = 192) (h_12 : v_face.length = 192) (h_13 : v_worn.length = 384) (h_14 : v_lastBend.length = 384) (h_15 : v_tape.length = 120) (h_16 : v_text.length = 120) (h_17 : v_names.length = 6) (h_18 : v_bends.length = 64) (h_19 : v_high.length = 32) (h_20 : v_to.length = 32) (h_21 : v_pileSize.length = 64) (h_22 : fr u_row v_row A B9) (h_23 : fr u_col v_column A B9) (h_24 : fr u_sR v_shapeRows a9 b9) (h_25 : fr u_sC v_shapeColumns a9 b9) (h_26 : A ≤ 32 * (0 : Int32).toInt) (h_27 : 32 * (0 : Int32).toInt + 32 ≤ B9) (h_28 : a9 ≤ (0 : Int32).toInt) (h_29 : (0 : Int32).toInt < b9) (h_30 : lv9 v_rowsOf v_columnsOf v_shapeRows v_shapeColumns v_row v_column (0 : Int32)) : wp (fX9_fold N x1 x2 v_rowsOf v_columnsOf v_folded v_wronged v_textMany v_base v_at v_ends v_fault v_opened v_bentMany v_bentWrong v_moreWorn v_limit v_shapeRows v_shapeColumns v_row v_column v_below v_face v_worn v_lastBend v_tape v_text v_names v_bends v_high v_to v_pileSize) (cu24 (fun (r : Int32) (wv_folded : Int32) (wv_wronged : Int32) (wv_base : Int32) (wv_at : Int32) (wv_ends : Int32) (wv_fault : Int32) (wv_opened : Int32) (wv_bentMany : Int32) (wv_bentWrong : Int32) (wv_moreWorn : Int32) (wv_shapeRows : List Int32) (wv_shapeColumns : List Int32) (wv_row : List Int32) (wv_column : List Int32) (wv_below : List Int32) (wv_face : List Int32) (wv_worn : List Int32) (wv_lastBend : List Int32) (wv_names : List Int32) (wv_bends : List Int32) (wv_high : List Int32) (wv_to : List Int32) (wv_pileSize : List Int32) => wv_shapeRows.length = 6 ∧ wv_shapeColumns.length = 6 ∧ wv_row.length = 192 ∧ wv_column.length = 192 ∧ wv_below.length = 192 ∧ wv_face.length = 192 ∧ wv_worn.length = 384 ∧ wv_lastBend.length = 384 ∧ wv_names.length = 6 ∧ wv_bends.length = 64 ∧ wv_high.length = 32 ∧ wv_to.length = 32 ∧ wv_pileSize.length = 64 ∧ fr u_row wv_row A B9 ∧ fr u_col wv_column A B9 ∧ fr u_sR wv_shapeRows a9 b9 ∧ fr u_sC wv_shapeColumns a9 b9 ∧ lv9 v_rowsOf v_columnsOf wv_shapeRows wv_shapeColumns wv_row wv_column (0 : Int32))) := by
  obtain ⟨l1, l2, l3, l4, l5, l6⟩ := id (show lv9 v_rowsOf v_columnsOf v_shapeRows v_shapeColumns v_row v_column (0 : Int32) by assumption)
  have n0z : (0 : Int32).toInt = 0 := by decide
  refine wp_of (uf_X9_fold _ _ _ _ _ _ _ _ _ _ _ _ _ _ _ _ _ _ _ _ _ _ _ _ _ _ _ _ _ _ _ _) ?_
  have n_1 := i_64 x2
  have n_2 : (0 : Int64).toInt = 0 := by decide
  have n_3 : (7 : Int64).toInt = 7 := by decide
  refine wp_bd1 (sf_X9_within hN ) (fun r_1 q_4 => ?_)
  rcases q_4 with ⟨rfl, q_4⟩ | ⟨rfl, q_4⟩
  ·
    refine wp_ifn (by decide) ?_
    have n_5 : (0 : Int32).toInt = 0 := by decide
    refine wp_bd1 (sf_X9_isLine hN h_7 h_8 (by omega) (by omega) (by omega) (by omega) (by omega) (by omega)) (fun r_4 q_6 => ?_)
    rcases q_6 with ⟨rfl, q_6⟩ | ⟨rfl, q_6⟩
    ·
      refine wp_ifn (by decide) ?_
      refine wp_bd21 (sf_X9_foldsOn (u_row := u_row) (u_col := u_col) (u_sR := u_sR) (u_sC := u_sC) (A := A) (B9 := B9) (a9 := a9) (b9 := b9) hN h_0 h_1 h_2 h_3 h_4 h_5 h_6 h_7 h_8 h_9 h_10 h_11 h_12 h_13 h_14 h_15 h_16 h_17 h_18 h_19 h_20 h_21 (by omega) (by omega) h_22 h_23 h_24 h_25 h_26 h_27 h_28 h_29 (by omega) (by omega) (by omega) h_30) (fun w_7 w_8 w_9 w_10 w_11 w_12 w_13 w_14 w_15 w_16 w_17 w_18 w_19 w_20 w_21 w_22 w_23 w_24 w_25 w_26 w_27 ⟨q_7, q_8, q_9, q_10, q_11, q_12, q_13, q_14, q_15, q_16, q_17, q_18, q_19, q_20, q_21, q_22, q_23, q_24⟩ => ?_)
      refine wp_nm (fun y_29 _ => ?_)
      refine wp_nm (fun y_30 _ => ?_)
      exact wp_so24 ⟨q_7, q_8, q_9, q_10, q_11, q_12, q_13, q_14, q_15, q_16, q_17, q_18, q_19, q_20, q_21, q_22, q_23, q_24⟩
    ·
      refine wp_ifp (by decide) ?_
      exact wp_so24 ⟨h_7, h_8, h_9, h_10, h_11, h_12, h_13, h_14, h_17, h_18, h_19, h_20, h_21, h_22, h_23, h_24, h_25, h_30⟩
  ·
    refine wp_ifp (by decide) ?_
    exact wp_so24 ⟨h_7, h_8, h_9, h_10, h_11, h_12, h_13, h_14, h_17, h_18, h_19, h_20, h_21, h_22, h_23, h_24, h_25, h_30⟩

theorem uf_X9_flat (N : Nat) (v_rowsOf : Int32) (v_columnsOf : Int32) (v_shapeRows : List Int32) (v_shapeColumns : List Int32) (v_row : List Int32) (v_column : List Int32) (v_below : List Int32) (v_face : List Int32) : fX9_flat N v_rowsOf v_columnsOf v_shapeRows v_shapeColumns v_row v_column v_below v_face = mm_ck (mm_inb (0 : Int32) v_shapeRows.length) (mm_ck (mm_inb (0 : Int32) v_shapeColumns.length) (mm_nm (((mm_ig v_shapeRows (0 : Int32)) * (mm_ig v_shapeColumns (0 : Int32)))) (fun (y_3 : Int32) =>
    mm_bd6 (fX9_liesFlat N (0 : Int32) v_rowsOf v_columnsOf v_shapeRows v_shapeColumns v_row v_column v_below v_face) (fun (w_4 : List Int32) (w_5 : List Int32) (w_6 : List Int32) (w_7 : List Int32) (w_8 : List Int32) (w_9 : List Int32) =>
    some (y_3, w_4, w_5, w_6, w_7, w_8, w_9))))) := rfl

set_option maxHeartbeats 4000000 in
set_option maxRecDepth 20000 in
theorem sf_X9_flat {N : Nat} (hN : 700 ≤ N) {u_row : List Int32} {u_col : List Int32} {u_sR : List Int32} {u_sC : List Int32} {A : Int} {B9 : Int} {a9 : Int} {b9 : Int} {v_rowsOf : Int32} {v_columnsOf : Int32} {v_shapeRows : List Int32} {v_shapeColumns : List Int32} {v_row : List Int32} {v_column : List Int32} {v_below : List Int32} {v_face : List Int32} (h_0 : 1 ≤ v_rowsOf.toInt) (h_1 : v_rowsOf.toInt ≤ 4) (h_2 : 1 ≤ v_columnsOf.toInt) (h_3 : v_columnsOf.toInt ≤ 8) (h_4 : v_shapeRows.length = 6) (h_5 : v_shapeColumns.length = 6) (h_6 : v_row.length = 192) (h_7 : v_column.length = 192) (h_8 : v_below.length = 192) (h_9 : v_face.length = 192) (h_10 : fr u_row v_row A B9) (h_11 : fr u_col v_column A B9) (h_12 : fr u_sR v_shapeRows a9 b9) (h_13 : fr u_sC v_shapeColumns a9 b9) (h_14 : A ≤ 32 * (0 : Int32).toInt) (h_15 : 32 * (0 : Int32).toInt + 32 ≤ B9) (h_16 : a9 ≤ (0 : Int32).toInt) (h_17 : (0 : Int32).toInt < b9) (h_18 : lv9 v_rowsOf v_columnsOf v_shapeRows v_shapeColumns v_row v_column (0 : Int32)) : wp (fX9_flat N v_rowsOf v_columnsOf v_shapeRows v_shapeColumns v_row v_column v_below v_face) (cu7 (fun (r : Int32) (wv_shapeRows : List Int32) (wv_shapeColumns : List Int32) (wv_row : List Int32) (wv_column : List Int32) (wv_below : List Int32) (wv_face : List Int32) => wv_shapeRows.length = 6 ∧ wv_shapeColumns.length = 6 ∧ wv_row.length = 192 ∧ wv_column.length = 192 ∧ wv_below.length = 192 ∧ wv_face.length = 192 ∧ fr u_row wv_row A B9 ∧ fr u_col wv_column A B9 ∧ fr u_sR wv_shapeRows a9 b9 ∧ fr u_sC wv_shapeColumns a9 b9 ∧ lv9 v_rowsOf v_columnsOf wv_shapeRows wv_shapeColumns wv_row wv_column (0 : Int32))) := by
  have n0z : (0 : Int32).toInt = 0 := by decide
  refine wp_of (uf_X9_flat _ _ _ _ _ _ _ _ _) ?_
  have n_1 : (0 : Int32).toInt = 0 := by decide
  refine wp_ck (i_inb (by omega) (by omega)) ?_
  refine wp_ck (i_inb (by omega) (by omega)) ?_
  refine wp_nm (fun y_3 _ => ?_)
  refine wp_bd6 (sf_X9_liesFlat (u_row := u_row) (u_col := u_col) (u_sR := u_sR) (u_sC := u_sC) (A := A) (B9 := B9) (a9 := a9) (b9 := b9) hN h_0 h_1 h_2 h_3 h_4 h_5 h_6 h_7 h_8 h_9 (by omega) (by omega) h_10 h_11 h_12 h_13 h_14 h_15 h_16 h_17) (fun w_4 w_5 w_6 w_7 w_8 w_9 ⟨q_2, q_3, q_4, q_5, q_6, q_7, q_8, q_9, q_10, q_11, q_12⟩ => ?_)
  exact wp_so7 ⟨q_2, q_3, q_4, q_5, q_6, q_7, q_8, q_9, q_10, q_11, q_12⟩

theorem uf_X9_goesPlan_101 (N : Nat) (k_17 : Int32 → Int32 → Int32 → Int32 → Int32 → Int32 → Int32 → Int32 → Int32 → Int32 → Int32 → Int32 → Int32 → Int32 → Int32 → Int32 → Int32 → Int32 → List Int32 → List Int32 → List Int32 → List Int32 → List Int32 → List Int32 → List Int32 → List Int32 → List Int32 → List Int32 → List Int32 → List Int32 → List Int32 → List Int32 → List Int32 → List Int32 → List Int32 → List Int32 → Option (Int32 × Int32 × Int32 × Int32 × Int32 × Int32 × Int32 × Int32 × Int32 × Int32 × Int32 × Int32 × List Int32 × List Int32 × List Int32 × List Int32 × List Int32 × List Int32 × List Int32 × List Int32 × List Int32 × List Int32 × List Int32 × List Int32 × List Int32)) (x1 : Int32) (x2 : Int32) (x3 : Int32) (s0 : Int32) (v_rowsOf : Int32) (v_columnsOf : Int32) (v_textMany : Int32) (v_base : Int32) (v_at : Int32) (v_ends : Int32) (v_fault : Int32) (v_opened : Int32) (v_bentMany : Int32) (v_bentWrong : Int32) (v_moreWorn : Int32) (v_planned : Int32) (v_allWrong : Int32) (v_allWorn : Int32) (v_z : Int32) (v_limit : List Int32) (v_shapeRows : List Int32) (v_shapeColumns : List Int32) (v_row : List Int32) (v_column : List Int32) (v_below : List Int32) (v_face : List Int32) (v_worn : List Int32) (v_lastBend : List Int32) (v_tape : List Int32) (v_text : List Int32) (v_names : List Int32) (v_bends : List Int32) (v_high : List Int32) (v_to : List Int32) (v_pileSize : List Int32) (v_planLine : List Int32) (v_planWay : List Int32) : fX9_goesPlan_101 N k_17 x1 x2 x3 s0 v_rowsOf v_columnsOf v_textMany v_base v_at v_ends v_fault v_opened v_bentMany v_bentWrong v_moreWorn v_planned v_allWrong v_allWorn v_z v_limit v_shapeRows v_shapeColumns v_row v_column v_below v_face v_worn v_lastBend v_tape v_text v_names v_bends v_high v_to v_pileSize v_planLine v_planWay = fX9_goesPlan_103 N k_17 x1 x2 x3 s0 v_rowsOf v_columnsOf v_textMany v_base v_at v_ends v_fault v_opened v_bentMany v_bentWrong v_moreWorn v_planned v_allWrong v_allWorn v_z v_limit v_shapeRows v_shapeColumns v_row v_column v_below v_face v_worn v_lastBend v_tape v_text v_names v_bends v_high v_to v_pileSize v_planLine v_planWay := rfl

theorem uf_X9_goesPlan_103 (N : Nat) (k_17 : Int32 → Int32 → Int32 → Int32 → Int32 → Int32 → Int32 → Int32 → Int32 → Int32 → Int32 → Int32 → Int32 → Int32 → Int32 → Int32 → Int32 → Int32 → List Int32 → List Int32 → List Int32 → List Int32 → List Int32 → List Int32 → List Int32 → List Int32 → List Int32 → List Int32 → List Int32 → List Int32 → List Int32 → List Int32 → List Int32 → List Int32 → List Int32 → List Int32 → Option (Int32 × Int32 × Int32 × Int32 × Int32 × Int32 × Int32 × Int32 × Int32 × Int32 × Int32 × Int32 × List Int32 × List Int32 × List Int32 × List Int32 × List Int32 × List Int32 × List Int32 × List Int32 × List Int32 × List Int32 × List Int32 × List Int32 × List Int32)) (x1 : Int32) (x2 : Int32) (x3 : Int32) (x4 : Int32) (v_rowsOf : Int32) (v_columnsOf : Int32) (v_textMany : Int32) (v_base : Int32) (v_at : Int32) (v_ends : Int32) (v_fault : Int32) (v_opened : Int32) (v_bentMany : Int32) (v_bentWrong : Int32) (v_moreWorn : Int32) (v_planned : Int32) (v_allWrong : Int32) (v_allWorn : Int32) (v_z : Int32) (v_limit : List Int32) (v_shapeRows : List Int32) (v_shapeColumns : List Int32) (v_row : List Int32) (v_column : List Int32) (v_below : List Int32) (v_face : List Int32) (v_worn : List Int32) (v_lastBend : List Int32) (v_tape : List Int32) (v_text : List Int32) (v_names : List Int32) (v_bends : List Int32) (v_high : List Int32) (v_to : List Int32) (v_pileSize : List Int32) (v_planLine : List Int32) (v_planWay : List Int32) : fX9_goesPlan_103 N k_17 x1 x2 x3 x4 v_rowsOf v_columnsOf v_textMany v_base v_at v_ends v_fault v_opened v_bentMany v_bentWrong v_moreWorn v_planned v_allWrong v_allWorn v_z v_limit v_shapeRows v_shapeColumns v_row v_column v_below v_face v_worn v_lastBend v_tape v_text v_names v_bends v_high v_to v_pileSize v_planLine v_planWay = mm_ck (mm_inb x3 v_planLine.length) (mm_bd21 (fX9_foldsOn N (1 : Int32) (mm_ig v_planLine x3) x4 v_rowsOf v_columnsOf v_textMany v_base v_at v_ends v_fault v_opened v_bentMany v_bentWrong v_moreWorn v_limit v_shapeRows v_shapeColumns v_row v_column v_below v_face v_worn v_lastBend v_tape v_text v_names v_bends v_high v_to v_pileSize) (fun (w_24 : Int32) (w_25 : Int32) (w_26 : Int32) (w_27 : Int32) (w_28 : Int32) (w_29 : Int32) (w_30 : Int32) (w_31 : Int32) (w_32 : List Int32) (w_33 : List Int32) (w_34 : List Int32) (w_35 : List Int32) (w_36 : List Int32) (w_37 : List Int32) (w_38 : List Int32) (w_39 : List Int32) (w_40 : List Int32) (w_41 : List Int32) (w_42 : List Int32) (w_43 : List Int32) (w_44 : List Int32) =>
    mm_nm ((v_allWrong + w_30)) (fun (y_46 : Int32) =>
    mm_nm ((v_allWorn + w_31)) (fun (y_47 : Int32) =>
    mm_nm (x3 + (1 : Int32)) (fun (y_48 : Int32) =>
    k_17 x1 x2 y_48 v_rowsOf v_columnsOf v_textMany w_24 w_25 w_26 w_27 w_28 w_29 w_30 w_31 v_planned y_46 y_47 v_z v_limit w_32 w_33 w_34 w_35 w_36 w_37 w_38 w_39 v_tape v_text w_40 w_41 w_42 w_43 w_44 v_planLine v_planWay))))) := rfl

theorem uf_X9_goesPlan_17 (N : Nat) (n : Nat) (x1 : Int32) (x2 : Int32) (x3 : Int32) (v_rowsOf : Int32) (v_columnsOf : Int32) (v_textMany : Int32) (v_base : Int32) (v_at : Int32) (v_ends : Int32) (v_fault : Int32) (v_opened : Int32) (v_bentMany : Int32) (v_bentWrong : Int32) (v_moreWorn : Int32) (v_planned : Int32) (v_allWrong : Int32) (v_allWorn : Int32) (v_z : Int32) (v_limit : List Int32) (v_shapeRows : List Int32) (v_shapeColumns : List Int32) (v_row : List Int32) (v_column : List Int32) (v_below : List Int32) (v_face : List Int32) (v_worn : List Int32) (v_lastBend : List Int32) (v_tape : List Int32) (v_text : List Int32) (v_names : List Int32) (v_bends : List Int32) (v_high : List Int32) (v_to : List Int32) (v_pileSize : List Int32) (v_planLine : List Int32) (v_planWay : List Int32) : fX9_goesPlan_17 N (n + 1) x1 x2 x3 v_rowsOf v_columnsOf v_textMany v_base v_at v_ends v_fault v_opened v_bentMany v_bentWrong v_moreWorn v_planned v_allWrong v_allWorn v_z v_limit v_shapeRows v_shapeColumns v_row v_column v_below v_face v_worn v_lastBend v_tape v_text v_names v_bends v_high v_to v_pileSize v_planLine v_planWay = 
    if v_planned ≤ x3 then
    (some (x3, v_base, v_at, v_ends, v_fault, v_opened, v_bentMany, v_bentWrong, v_moreWorn, v_allWrong, v_allWorn, v_z, v_shapeRows, v_shapeColumns, v_row, v_column, v_below, v_face, v_worn, v_lastBend, v_names, v_bends, v_high, v_to, v_pileSize))
    else (if x1 ≤ x3 then
    (some (x3, v_base, v_at, v_ends, v_fault, v_opened, v_bentMany, v_bentWrong, v_moreWorn, v_allWrong, v_allWorn, v_z, v_shapeRows, v_shapeColumns, v_row, v_column, v_below, v_face, v_worn, v_lastBend, v_names, v_bends, v_high, v_to, v_pileSize))
    else (mm_ck (mm_inb x3 v_planLine.length) (mm_ck (mm_inb x3 v_planWay.length) (mm_bd1 (fX9_isLine N (1 : Int32) (mm_ig v_planLine x3) (mm_ig v_planWay x3) v_shapeRows v_shapeColumns) (fun (r_14 : Bool) =>
    if r_14 = false then
    (some (x3, v_base, v_at, v_ends, v_fault, v_opened, v_bentMany, v_bentWrong, v_moreWorn, v_allWrong, v_allWorn, v_z, v_shapeRows, v_shapeColumns, v_row, v_column, v_below, v_face, v_worn, v_lastBend, v_names, v_bends, v_high, v_to, v_pileSize))
    else (mm_ck (mm_inb x3 v_planWay.length) (mm_nm ((mm_ig v_planWay x3)) (fun (y_18 : Int32) =>
    if x2 < 0 then
    (fX9_goesPlan_103 N (fX9_goesPlan_17 N n) x1 x2 x3 y_18 v_rowsOf v_columnsOf v_textMany v_base v_at v_ends v_fault v_opened v_bentMany v_bentWrong v_moreWorn v_planned v_allWrong v_allWorn v_z v_limit v_shapeRows v_shapeColumns v_row v_column v_below v_face v_worn v_lastBend v_tape v_text v_names v_bends v_high v_to v_pileSize v_planLine v_planWay)
    else (mm_nm (((v_z * (1103515245 : Int32)) + (12345 : Int32))) (fun (y_20 : Int32) =>
    mm_ck (mm_nz (100 : Int32)) (if x2 ≤ (mm_rem ((y_20.toUInt32 >>> ((8 : Int32).toUInt32 &&& Int32.toUInt32 31)).toInt32) (100 : Int32)) then
    (fX9_goesPlan_101 N (fX9_goesPlan_17 N n) x1 x2 x3 y_18 v_rowsOf v_columnsOf v_textMany v_base v_at v_ends v_fault v_opened v_bentMany v_bentWrong v_moreWorn v_planned v_allWrong v_allWorn y_20 v_limit v_shapeRows v_shapeColumns v_row v_column v_below v_face v_worn v_lastBend v_tape v_text v_names v_bends v_high v_to v_pileSize v_planLine v_planWay)
    else (fX9_goesPlan_101 N (fX9_goesPlan_17 N n) x1 x2 x3 (y_18 ^^^ (1 : Int32)) v_rowsOf v_columnsOf v_textMany v_base v_at v_ends v_fault v_opened v_bentMany v_bentWrong v_moreWorn v_planned v_allWrong v_allWorn y_20 v_limit v_shapeRows v_shapeColumns v_row v_column v_below v_face v_worn v_lastBend v_tape v_text v_names v_bends v_high v_to v_pileSize v_planLine v_planWay)))))))))))) := rfl

set_option maxHeartbeats 4000000 in
set_option maxRecDepth 20000 in
theorem sf_X9_goesPlan_17 {N : Nat} (hN : 700 ≤ N) {u_row : List Int32} {u_col : List Int32} {u_sR : List Int32} {u_sC : List Int32} {A : Int} {B9 : Int} {a9 : Int} {b9 : Int} : ∀ (n : Nat) (x1 : Int32) (x2 : Int32) (x3 : Int32) (v_rowsOf : Int32) (v_columnsOf : Int32) (v_textMany : Int32) (v_base : Int32) (v_at : Int32) (v_ends : Int32) (v_fault : Int32) (v_opened : Int32) (v_bentMany : Int32) (v_bentWrong : Int32) (v_moreWorn : Int32) (v_planned : Int32) (v_allWrong : Int32) (v_allWorn : Int32) (v_z : Int32) (v_limit : List Int32) (v_shapeRows : List Int32) (v_shapeColumns : List Int32) (v_row : List Int32) (v_column : List Int32) (v_below : List Int32) (v_face : List Int32) (v_worn : List Int32) (v_lastBend : List Int32) (v_tape : List Int32) (v_text : List Int32) (v_names : List Int32) (v_bends : List Int32) (v_high : List Int32) (v_to : List Int32) (v_pileSize : List Int32) (v_planLine : List Int32) (v_planWay : List Int32), 1 ≤ v_rowsOf.toInt → v_rowsOf.toInt ≤ 4 → 1 ≤ v_columnsOf.toInt → v_columnsOf.toInt ≤ 8 → -1 ≤ v_textMany.toInt → v_textMany.toInt ≤ 120 → 0 ≤ v_planned.toInt → v_planned.toInt ≤ 12 → v_limit.length = 1 → v_shapeRows.length = 6 → v_shapeColumns.length = 6 → v_row.length = 192 → v_column.length = 192 → v_below.length = 192 → v_face.length = 192 → v_worn.length = 384 → v_lastBend.length = 384 → v_tape.length = 120 → v_text.length = 120 → v_names.length = 6 → v_bends.length = 64 → v_high.length = 32 → v_to.length = 32 → v_pileSize.length = 64 → v_planLine.length = 12 → v_planWay.length = 12 → fr u_row v_row A B9 → fr u_col v_column A B9 → fr u_sR v_shapeRows a9 b9 → fr u_sC v_shapeColumns a9 b9 → A ≤ 32 * (1 : Int32).toInt → 32 * (1 : Int32).toInt + 32 ≤ B9 → a9 ≤ (1 : Int32).toInt → (1 : Int32).toInt < b9 → lv9 v_rowsOf v_columnsOf v_shapeRows v_shapeColumns v_row v_column (1 : Int32) → 0 ≤ x3.toInt → x3.toInt ≤ 12 → (13 - x3.toInt).toNat < n → wp (fX9_goesPlan_17 N n x1 x2 x3 v_rowsOf v_columnsOf v_textMany v_base v_at v_ends v_fault v_opened v_bentMany v_bentWrong v_moreWorn v_planned v_allWrong v_allWorn v_z v_limit v_shapeRows v_shapeColumns v_row v_column v_below v_face v_worn v_lastBend v_tape v_text v_names v_bends v_high v_to v_pileSize v_planLine v_planWay) (cu25 (fun (r : Int32) (wv_base : Int32) (wv_at : Int32) (wv_ends : Int32) (wv_fault : Int32) (wv_opened : Int32) (wv_bentMany : Int32) (wv_bentWrong : Int32) (wv_moreWorn : Int32) (wv_allWrong : Int32) (wv_allWorn : Int32) (wv_z : Int32) (wv_shapeRows : List Int32) (wv_shapeColumns : List Int32) (wv_row : List Int32) (wv_column : List Int32) (wv_below : List Int32) (wv_face : List Int32) (wv_worn : List Int32) (wv_lastBend : List Int32) (wv_names : List Int32) (wv_bends : List Int32) (wv_high : List Int32) (wv_to : List Int32) (wv_pileSize : List Int32) => wv_shapeRows.length = 6 ∧ wv_shapeColumns.length = 6 ∧ wv_row.length = 192 ∧ wv_column.length = 192 ∧ wv_below.length = 192 ∧ wv_face.length = 192 ∧ wv_worn.length = 384 ∧ wv_lastBend.length = 384 ∧ wv_names.length = 6 ∧ wv_bends.length = 64 ∧ wv_high.length = 32 ∧ wv_to.length = 32 ∧ wv_pileSize.length = 64 ∧ fr u_row wv_row A B9 ∧ fr u_col wv_column A B9 ∧ fr u_sR wv_shapeRows a9 b9 ∧ fr u_sC wv_shapeColumns a9 b9 ∧ lv9 v_rowsOf v_columnsOf wv_shapeRows wv_shapeColumns wv_row wv_column (1 : Int32))) := by
  intro n
  induction n with
  | zero =>
    intro x1 x2 x3 v_rowsOf v_columnsOf v_textMany v_base v_at v_ends v_fault v_opened v_bentMany v_bentWrong v_moreWorn v_planned v_allWrong v_allWorn v_z v_limit v_shapeRows v_shapeColumns v_row v_column v_below v_face v_worn v_lastBend v_tape v_text v_names v_bends v_high v_to v_pileSize v_planLine v_planWay h_0 h_1 h_2 h_3 h_4 h_5 h_6 h_7 h_8 h_9 h_10 h_11 h_12 h_13 h_14 h_15 h_16 h_17 h_18 h_19 h_20 h_21 h_22 h_23 h_24 h_25 h_26 h_27 h_28 h_29 h_30 h_31 h_32 h_33 h_34 h_35 h_36 hm
    exact absurd hm (by omega)
  | succ n ih =>
    intro x1 x2 x3 v_rowsOf v_columnsOf v_textMany v_base v_at v_ends v_fault v_opened v_bentMany v_bentWrong v_moreWorn v_planned v_allWrong v_allWorn v_z v_limit v_shapeRows v_shapeColumns v_row v_column v_below v_face v_worn v_lastBend v_tape v_text v_names v_bends v_high v_to v_pileSize v_planLine v_planWay h_0 h_1 h_2 h_3 h_4 h_5 h_6 h_7 h_8 h_9 h_10 h_11 h_12 h_13 h_14 h_15 h_16 h_17 h_18 h_19 h_20 h_21 h_22 h_23 h_24 h_25 h_26 h_27 h_28 h_29 h_30 h_31 h_32 h_33 h_34 h_35 h_36 hm
    obtain ⟨l1, l2, l3, l4, l5, l6⟩ := id (show lv9 v_rowsOf v_columnsOf v_shapeRows v_shapeColumns v_row v_column (1 : Int32) by assumption)
    have n1z : (1 : Int32).toInt = 1 := by decide
    refine wp_of (uf_X9_goesPlan_17 _ _ _ _ _ _ _ _ _ _ _ _ _ _ _ _ _ _ _ _ _ _ _ _ _ _ _ _ _ _ _ _ _ _ _ _ _ _) ?_
    refine wp_if (fun c_1 => ?_) (fun c_1 => ?_)
    ·
      have dc_1 := i_le c_1
      exact wp_so25 ⟨h_9, h_10, h_11, h_12, h_13, h_14, h_15, h_16, h_19, h_20, h_21, h_22, h_23, h_26, h_27, h_28, h_29, h_34⟩
    ·
      have dc_1 := i_nle c_1
      refine wp_if (fun c_2 => ?_) (fun c_2 => ?_)
      ·
        have dc_2 := i_le c_2
        exact wp_so25 ⟨h_9, h_10, h_11, h_12, h_13, h_14, h_15, h_16, h_19, h_20, h_21, h_22, h_23, h_26, h_27, h_28, h_29, h_34⟩
      ·
        have dc_2 := i_nle c_2
        refine wp_ck (i_inb (by omega) (by omega)) ?_
        refine wp_ck (i_inb (by omega) (by omega)) ?_
        have n_3 : (1 : Int32).toInt = 1 := by decide
        refine wp_bd1 (sf_X9_isLine hN h_9 h_10 (by omega) (by omega) (by omega) (by omega) (by omega) (by omega)) (fun r_14 q_4 => ?_)
        rcases q_4 with ⟨rfl, q_4⟩ | ⟨rfl, q_4⟩
        ·
          refine wp_ifn (by decide) ?_
          refine wp_ck (i_inb (by omega) (by omega)) ?_
          refine wp_nm (fun y_18 h_y_18 => ?_)
          have t_y_18 : y_18.toInt = ((mm_ig v_planWay x3)).toInt := by rw [h_y_18]
          have n_6 : (0 : Int32).toInt = 0 := by decide
          refine wp_if (fun c_5 => ?_) (fun c_5 => ?_)
          ·
            have dc_5 := i_lt c_5
            refine wp_of (uf_X9_goesPlan_103 _ _ _ _ _ _ _ _ _ _ _ _ _ _ _ _ _ _ _ _ _ _ _ _ _ _ _ _ _ _ _ _ _ _ _ _ _ _ _) ?_
            refine wp_ck (i_inb (by omega) (by omega)) ?_
            refine wp_bd21 (sf_X9_foldsOn (u_row := u_row) (u_col := u_col) (u_sR := u_sR) (u_sC := u_sC) (A := A) (B9 := B9) (a9 := a9) (b9 := b9) hN h_0 h_1 h_2 h_3 h_4 h_5 h_8 h_9 h_10 h_11 h_12 h_13 h_14 h_15 h_16 h_17 h_18 h_19 h_20 h_21 h_22 h_23 (by omega) (by omega) h_26 h_27 h_28 h_29 h_30 h_31 h_32 h_33 (by omega) (by omega) (by omega) h_34) (fun w_24 w_25 w_26 w_27 w_28 w_29 w_30 w_31 w_32 w_33 w_34 w_35 w_36 w_37 w_38 w_39 w_40 w_41 w_42 w_43 w_44 ⟨q_7, q_8, q_9, q_10, q_11, q_12, q_13, q_14, q_15, q_16, q_17, q_18, q_19, q_20, q_21, q_22, q_23, q_24⟩ => ?_)
            refine wp_nm (fun y_46 _ => ?_)
            refine wp_nm (fun y_47 _ => ?_)
            refine wp_nm (fun y_48 h_y_48 => ?_)
            have e_25 := i_addE h_y_48.symm (by omega) (by omega)
            exact ih _ _ _ _ _ _ _ _ _ _ _ _ _ _ _ _ _ _ _ _ _ _ _ _ _ _ _ _ _ _ _ _ _ _ _ _ h_0 h_1 h_2 h_3 h_4 h_5 h_6 h_7 h_8 q_7 q_8 q_9 q_10 q_11 q_12 q_13 q_14 h_17 h_18 q_15 q_16 q_17 q_18 q_19 h_24 h_25 q_20 q_21 q_22 q_23 h_30 h_31 h_32 h_33 q_24 (by omega) (by omega) (by omega)
          ·
            have dc_5 := i_nlt c_5
            refine wp_nm (fun y_20 _ => ?_)
            have n_26 : (100 : Int32).toInt = 100 := by decide
            refine wp_ck (i_nz (by omega)) ?_
            generalize hz_z : (mm_rem ((y_20.toUInt32 >>> (((8 : Int32)).toUInt32 &&& (Int32.toUInt32 31)))).toInt32 (100 : Int32)) = z
            have e_28 := i_remL (c := 100) (by decide) (by decide) hz_z
            refine wp_if (fun c_27 => ?_) (fun c_27 => ?_)
            ·
              have dc_27 := i_le c_27
              refine wp_of (uf_X9_goesPlan_101 _ _ _ _ _ _ _ _ _ _ _ _ _ _ _ _ _ _ _ _ _ _ _ _ _ _ _ _ _ _ _ _ _ _ _ _ _ _ _) ?_
              refine wp_of (uf_X9_goesPlan_103 _ _ _ _ _ _ _ _ _ _ _ _ _ _ _ _ _ _ _ _ _ _ _ _ _ _ _ _ _ _ _ _ _ _ _ _ _ _ _) ?_
              refine wp_ck (i_inb (by omega) (by omega)) ?_
              refine wp_bd21 (sf_X9_foldsOn (u_row := u_row) (u_col := u_col) (u_sR := u_sR) (u_sC := u_sC) (A := A) (B9 := B9) (a9 := a9) (b9 := b9) hN h_0 h_1 h_2 h_3 h_4 h_5 h_8 h_9 h_10 h_11 h_12 h_13 h_14 h_15 h_16 h_17 h_18 h_19 h_20 h_21 h_22 h_23 (by omega) (by omega) h_26 h_27 h_28 h_29 h_30 h_31 h_32 h_33 (by omega) (by omega) (by omega) h_34) (fun w_24__29 w_25__30 w_26__31 w_27__32 w_28__33 w_29__34 w_30__35 w_31__36 w_32__37 w_33__38 w_34__39 w_35__40 w_36__41 w_37__42 w_38__43 w_39__44 w_40__45 w_41__46 w_42__47 w_43__48 w_44__49 ⟨q_50, q_51, q_52, q_53, q_54, q_55, q_56, q_57, q_58, q_59, q_60, q_61, q_62, q_63, q_64, q_65, q_66, q_67⟩ => ?_)
              refine wp_nm (fun y_46__68 _ => ?_)
              refine wp_nm (fun y_47__69 _ => ?_)
              refine wp_nm (fun y_48__70 h_y_48__70 => ?_)
              have e_71 := i_addE h_y_48__70.symm (by omega) (by omega)
              exact ih _ _ _ _ _ _ _ _ _ _ _ _ _ _ _ _ _ _ _ _ _ _ _ _ _ _ _ _ _ _ _ _ _ _ _ _ h_0 h_1 h_2 h_3 h_4 h_5 h_6 h_7 h_8 q_50 q_51 q_52 q_53 q_54 q_55 q_56 q_57 h_17 h_18 q_58 q_59 q_60 q_61 q_62 h_24 h_25 q_63 q_64 q_65 q_66 h_30 h_31 h_32 h_33 q_67 (by omega) (by omega) (by omega)
            ·
              have dc_27 := i_nle c_27
              refine wp_of (uf_X9_goesPlan_101 _ _ _ _ _ _ _ _ _ _ _ _ _ _ _ _ _ _ _ _ _ _ _ _ _ _ _ _ _ _ _ _ _ _ _ _ _ _ _) ?_
              refine wp_of (uf_X9_goesPlan_103 _ _ _ _ _ _ _ _ _ _ _ _ _ _ _ _ _ _ _ _ _ _ _ _ _ _ _ _ _ _ _ _ _ _ _ _ _ _ _) ?_
              refine wp_ck (i_inb (by omega) (by omega)) ?_
              have hx_72 := x1_lt4 y_18
              refine wp_bd21 (sf_X9_foldsOn (u_row := u_row) (u_col := u_col) (u_sR := u_sR) (u_sC := u_sC) (A := A) (B9 := B9) (a9 := a9) (b9 := b9) hN h_0 h_1 h_2 h_3 h_4 h_5 h_8 h_9 h_10 h_11 h_12 h_13 h_14 h_15 h_16 h_17 h_18 h_19 h_20 h_21 h_22 h_23 (by omega) (by omega) h_26 h_27 h_28 h_29 h_30 h_31 h_32 h_33 (by omega) (by omega) (by omega) h_34) (fun w_24__73 w_25__74 w_26__75 w_27__76 w_28__77 w_29__78 w_30__79 w_31__80 w_32__81 w_33__82 w_34__83 w_35__84 w_36__85 w_37__86 w_38__87 w_39__88 w_40__89 w_41__90 w_42__91 w_43__92 w_44__93 ⟨q_94, q_95, q_96, q_97, q_98, q_99, q_100, q_101, q_102, q_103, q_104, q_105, q_106, q_107, q_108, q_109, q_110, q_111⟩ => ?_)
              refine wp_nm (fun y_46__112 _ => ?_)
              refine wp_nm (fun y_47__113 _ => ?_)
              refine wp_nm (fun y_48__114 h_y_48__114 => ?_)
              have e_115 := i_addE h_y_48__114.symm (by omega) (by omega)
              exact ih _ _ _ _ _ _ _ _ _ _ _ _ _ _ _ _ _ _ _ _ _ _ _ _ _ _ _ _ _ _ _ _ _ _ _ _ h_0 h_1 h_2 h_3 h_4 h_5 h_6 h_7 h_8 q_94 q_95 q_96 q_97 q_98 q_99 q_100 q_101 h_17 h_18 q_102 q_103 q_104 q_105 q_106 h_24 h_25 q_107 q_108 q_109 q_110 h_30 h_31 h_32 h_33 q_111 (by omega) (by omega) (by omega)
        ·
          refine wp_ifp (by decide) ?_
          exact wp_so25 ⟨h_9, h_10, h_11, h_12, h_13, h_14, h_15, h_16, h_19, h_20, h_21, h_22, h_23, h_26, h_27, h_28, h_29, h_34⟩

theorem uf_X9_goesPlan (N : Nat) (x1 : Int32) (x2 : Int32) (v_rowsOf : Int32) (v_columnsOf : Int32) (v_textMany : Int32) (v_base : Int32) (v_at : Int32) (v_ends : Int32) (v_fault : Int32) (v_opened : Int32) (v_bentMany : Int32) (v_bentWrong : Int32) (v_moreWorn : Int32) (v_planned : Int32) (v_allWrong : Int32) (v_allWorn : Int32) (v_z : Int32) (v_limit : List Int32) (v_shapeRows : List Int32) (v_shapeColumns : List Int32) (v_row : List Int32) (v_column : List Int32) (v_below : List Int32) (v_face : List Int32) (v_worn : List Int32) (v_lastBend : List Int32) (v_tape : List Int32) (v_text : List Int32) (v_names : List Int32) (v_bends : List Int32) (v_high : List Int32) (v_to : List Int32) (v_pileSize : List Int32) (v_planLine : List Int32) (v_planWay : List Int32) : fX9_goesPlan N x1 x2 v_rowsOf v_columnsOf v_textMany v_base v_at v_ends v_fault v_opened v_bentMany v_bentWrong v_moreWorn v_planned v_allWrong v_allWorn v_z v_limit v_shapeRows v_shapeColumns v_row v_column v_below v_face v_worn v_lastBend v_tape v_text v_names v_bends v_high v_to v_pileSize v_planLine v_planWay = mm_bd8 (fX9_startsAt N (1 : Int32) v_rowsOf v_columnsOf v_shapeRows v_shapeColumns v_row v_column v_below v_face v_worn v_lastBend) (fun (w_1 : List Int32) (w_2 : List Int32) (w_3 : List Int32) (w_4 : List Int32) (w_5 : List Int32) (w_6 : List Int32) (w_7 : List Int32) (w_8 : List Int32) =>
    fX9_goesPlan_17 N N x1 x2 (0 : Int32) v_rowsOf v_columnsOf v_textMany v_base v_at v_ends v_fault v_opened v_bentMany v_bentWrong v_moreWorn v_planned (0 : Int32) (0 : Int32) v_z v_limit w_1 w_2 w_3 w_4 w_5 w_6 w_7 w_8 v_tape v_text v_names v_bends v_high v_to v_pileSize v_planLine v_planWay) := rfl

set_option maxHeartbeats 4000000 in
set_option maxRecDepth 20000 in
theorem sf_X9_goesPlan {N : Nat} (hN : 700 ≤ N) {u_row : List Int32} {u_col : List Int32} {u_sR : List Int32} {u_sC : List Int32} {A : Int} {B9 : Int} {a9 : Int} {b9 : Int} {x1 : Int32} {x2 : Int32} {v_rowsOf : Int32} {v_columnsOf : Int32} {v_textMany : Int32} {v_base : Int32} {v_at : Int32} {v_ends : Int32} {v_fault : Int32} {v_opened : Int32} {v_bentMany : Int32} {v_bentWrong : Int32} {v_moreWorn : Int32} {v_planned : Int32} {v_allWrong : Int32} {v_allWorn : Int32} {v_z : Int32} {v_limit : List Int32} {v_shapeRows : List Int32} {v_shapeColumns : List Int32} {v_row : List Int32} {v_column : List Int32} {v_below : List Int32} {v_face : List Int32} {v_worn : List Int32} {v_lastBend : List Int32} {v_tape : List Int32} {v_text : List Int32} {v_names : List Int32} {v_bends : List Int32} {v_high : List Int32} {v_to : List Int32} {v_pileSize : List Int32} {v_planLine : List Int32} {v_planWay : List Int32} (h_0 : 1 ≤ v_rowsOf.toInt) (h_1 : v_rowsOf.toInt ≤ 4) (h_2 : 1 ≤ v_columnsOf.toInt) (h_3 : v_columnsOf.toInt ≤ 8) (h_4 : -1 ≤ v_textMany.toInt) (h_5 : v_textMany.toInt ≤ 120) (h_6 : 0 ≤ v_planned.toInt) (h_7 : v_planned.toInt ≤ 12) (h_8 : v_limit.length = 1) (h_9 : v_shapeRows.length = 6) (h_10 : v_shapeColumns.length = 6) (h_11 : v_row.length = 192) (h_12 : v_column.length = 192) (h_13 : v_below.length = 192) (h_14 : v_face.length = 192) (h_15 : v_worn.length = 384) (h_16 : v_lastBend.length = 384) (h_17 : v_tape.length = 120) (h_18 : v_text.length = 120) (h_19 : v_names.length = 6) (h_20 : v_bends.length = 64) (h_21 : v_high.length = 32) (h_22 : v_to.length = 32) (h_23 : v_pileSize.length = 64) (h_24 : v_planLine.length = 12) (h_25 : v_planWay.length = 12) (h_26 : fr u_row v_row A B9) (h_27 : fr u_col v_column A B9) (h_28 : fr u_sR v_shapeRows a9 b9) (h_29 : fr u_sC v_shapeColumns a9 b9) (h_30 : A ≤ 32 * (1 : Int32).toInt) (h_31 : 32 * (1 : Int32).toInt + 32 ≤ B9) (h_32 : a9 ≤ (1 : Int32).toInt) (h_33 : (1 : Int32).toInt < b9) : wp (fX9_goesPlan N x1 x2 v_rowsOf v_columnsOf v_textMany v_base v_at v_ends v_fault v_opened v_bentMany v_bentWrong v_moreWorn v_planned v_allWrong v_allWorn v_z v_limit v_shapeRows v_shapeColumns v_row v_column v_below v_face v_worn v_lastBend v_tape v_text v_names v_bends v_high v_to v_pileSize v_planLine v_planWay) (cu25 (fun (r : Int32) (wv_base : Int32) (wv_at : Int32) (wv_ends : Int32) (wv_fault : Int32) (wv_opened : Int32) (wv_bentMany : Int32) (wv_bentWrong : Int32) (wv_moreWorn : Int32) (wv_allWrong : Int32) (wv_allWorn : Int32) (wv_z : Int32) (wv_shapeRows : List Int32) (wv_shapeColumns : List Int32) (wv_row : List Int32) (wv_column : List Int32) (wv_below : List Int32) (wv_face : List Int32) (wv_worn : List Int32) (wv_lastBend : List Int32) (wv_names : List Int32) (wv_bends : List Int32) (wv_high : List Int32) (wv_to : List Int32) (wv_pileSize : List Int32) => wv_shapeRows.length = 6 ∧ wv_shapeColumns.length = 6 ∧ wv_row.length = 192 ∧ wv_column.length = 192 ∧ wv_below.length = 192 ∧ wv_face.length = 192 ∧ wv_worn.length = 384 ∧ wv_lastBend.length = 384 ∧ wv_names.length = 6 ∧ wv_bends.length = 64 ∧ wv_high.length = 32 ∧ wv_to.length = 32 ∧ wv_pileSize.length = 64 ∧ fr u_row wv_row A B9 ∧ fr u_col wv_column A B9 ∧ fr u_sR wv_shapeRows a9 b9 ∧ fr u_sC wv_shapeColumns a9 b9 ∧ lv9 v_rowsOf v_columnsOf wv_shapeRows wv_shapeColumns wv_row wv_column (1 : Int32))) := by
  have n1z : (1 : Int32).toInt = 1 := by decide
  refine wp_of (uf_X9_goesPlan _ _ _ _ _ _ _ _ _ _ _ _ _ _ _ _ _ _ _ _ _ _ _ _ _ _ _ _ _ _ _ _ _ _ _ _) ?_
  have n_1 : (1 : Int32).toInt = 1 := by decide
  refine wp_bd8 (sf_X9_startsAt (u_row := u_row) (u_col := u_col) (u_sR := u_sR) (u_sC := u_sC) (A := A) (B9 := B9) (a9 := a9) (b9 := b9) hN h_0 h_1 h_2 h_3 h_9 h_10 h_11 h_12 h_13 h_14 h_15 h_16 (by omega) (by omega) h_26 h_27 h_28 h_29 h_30 h_31 h_32 h_33) (fun w_1 w_2 w_3 w_4 w_5 w_6 w_7 w_8 ⟨q_2, q_3, q_4, q_5, q_6, q_7, q_8, q_9, q_10, q_11, q_12, q_13, q_14⟩ => ?_)
  have n_15 : (0 : Int32).toInt = 0 := by decide
  exact sf_X9_goesPlan_17 (u_row := u_row) (u_col := u_col) (u_sR := u_sR) (u_sC := u_sC) (A := A) (B9 := B9) (a9 := a9) (b9 := b9) hN _ _ _ _ _ _ _ _ _ _ _ _ _ _ _ _ _ _ _ _ _ _ _ _ _ _ _ _ _ _ _ _ _ _ _ _ _ h_0 h_1 h_2 h_3 h_4 h_5 h_6 h_7 h_8 q_2 q_3 q_4 q_5 q_6 q_7 q_8 q_9 h_17 h_18 h_19 h_20 h_21 h_22 h_23 h_24 h_25 q_10 q_11 q_12 q_13 h_30 h_31 h_32 h_33 q_14 (by omega) (by omega) (by omega)

theorem uf_X9_isBehind (N : Nat) (x1 : Int32) (v_rowsOf : Int32) (v_columnsOf : Int32) (v_textMany : Int32) (v_base : Int32) (v_at : Int32) (v_ends : Int32) (v_fault : Int32) (v_opened : Int32) (v_bentMany : Int32) (v_bentWrong : Int32) (v_moreWorn : Int32) (v_planned : Int32) (v_allWrong : Int32) (v_allWorn : Int32) (v_z : Int32) (v_limit : List Int32) (v_shapeRows : List Int32) (v_shapeColumns : List Int32) (v_row : List Int32) (v_column : List Int32) (v_below : List Int32) (v_face : List Int32) (v_worn : List Int32) (v_lastBend : List Int32) (v_tape : List Int32) (v_text : List Int32) (v_names : List Int32) (v_bends : List Int32) (v_high : List Int32) (v_to : List Int32) (v_pileSize : List Int32) (v_planLine : List Int32) (v_planWay : List Int32) : fX9_isBehind N x1 v_rowsOf v_columnsOf v_textMany v_base v_at v_ends v_fault v_opened v_bentMany v_bentWrong v_moreWorn v_planned v_allWrong v_allWorn v_z v_limit v_shapeRows v_shapeColumns v_row v_column v_below v_face v_worn v_lastBend v_tape v_text v_names v_bends v_high v_to v_pileSize v_planLine v_planWay = if x1 < 0 then
    (some (false, v_base, v_at, v_ends, v_fault, v_opened, v_bentMany, v_bentWrong, v_moreWorn, v_allWrong, v_allWorn, v_z, v_shapeRows, v_shapeColumns, v_row, v_column, v_below, v_face, v_worn, v_lastBend, v_names, v_bends, v_high, v_to, v_pileSize))
    else (mm_bd25 (fX9_goesPlan N x1 (-1 : Int32) v_rowsOf v_columnsOf v_textMany v_base v_at v_ends v_fault v_opened v_bentMany v_bentWrong v_moreWorn v_planned v_allWrong v_allWorn v_z v_limit v_shapeRows v_shapeColumns v_row v_column v_below v_face v_worn v_lastBend v_tape v_text v_names v_bends v_high v_to v_pileSize v_planLine v_planWay) (fun (r_2 : Int32) (w_3 : Int32) (w_4 : Int32) (w_5 : Int32) (w_6 : Int32) (w_7 : Int32) (w_8 : Int32) (w_9 : Int32) (w_10 : Int32) (w_11 : Int32) (w_12 : Int32) (w_13 : Int32) (w_14 : List Int32) (w_15 : List Int32) (w_16 : List Int32) (w_17 : List Int32) (w_18 : List Int32) (w_19 : List Int32) (w_20 : List Int32) (w_21 : List Int32) (w_22 : List Int32) (w_23 : List Int32) (w_24 : List Int32) (w_25 : List Int32) (w_26 : List Int32) =>
    if r_2 = x1 then
    (some (true, w_3, w_4, w_5, w_6, w_7, w_8, w_9, w_10, w_11, w_12, w_13, w_14, w_15, w_16, w_17, w_18, w_19, w_20, w_21, w_22, w_23, w_24, w_25, w_26))
    else (some (false, w_3, w_4, w_5, w_6, w_7, w_8, w_9, w_10, w_11, w_12, w_13, w_14, w_15, w_16, w_17, w_18, w_19, w_20, w_21, w_22, w_23, w_24, w_25, w_26)))) := rfl

set_option maxHeartbeats 4000000 in
set_option maxRecDepth 20000 in
theorem sf_X9_isBehind {N : Nat} (hN : 700 ≤ N) {u_row : List Int32} {u_col : List Int32} {u_sR : List Int32} {u_sC : List Int32} {A : Int} {B9 : Int} {a9 : Int} {b9 : Int} {x1 : Int32} {v_rowsOf : Int32} {v_columnsOf : Int32} {v_textMany : Int32} {v_base : Int32} {v_at : Int32} {v_ends : Int32} {v_fault : Int32} {v_opened : Int32} {v_bentMany : Int32} {v_bentWrong : Int32} {v_moreWorn : Int32} {v_planned : Int32} {v_allWrong : Int32} {v_allWorn : Int32} {v_z : Int32} {v_limit : List Int32} {v_shapeRows : List Int32} {v_shapeColumns : List Int32} {v_row : List Int32} {v_column : List Int32} {v_below : List Int32} {v_face : List Int32} {v_worn : List Int32} {v_lastBend : List Int32} {v_tape : List Int32} {v_text : List Int32} {v_names : List Int32} {v_bends : List Int32} {v_high : List Int32} {v_to : List Int32} {v_pileSize : List Int32} {v_planLine : List Int32} {v_planWay : List Int32} (h_0 : 1 ≤ v_rowsOf.toInt) (h_1 : v_rowsOf.toInt ≤ 4) (h_2 : 1 ≤ v_columnsOf.toInt) (h_3 : v_columnsOf.toInt ≤ 8) (h_4 : -1 ≤ v_textMany.toInt) (h_5 : v_textMany.toInt ≤ 120) (h_6 : 0 ≤ v_planned.toInt) (h_7 : v_planned.toInt ≤ 12) (h_8 : v_limit.length = 1) (h_9 : v_shapeRows.length = 6) (h_10 : v_shapeColumns.length = 6) (h_11 : v_row.length = 192) (h_12 : v_column.length = 192) (h_13 : v_below.length = 192) (h_14 : v_face.length = 192) (h_15 : v_worn.length = 384) (h_16 : v_lastBend.length = 384) (h_17 : v_tape.length = 120) (h_18 : v_text.length = 120) (h_19 : v_names.length = 6) (h_20 : v_bends.length = 64) (h_21 : v_high.length = 32) (h_22 : v_to.length = 32) (h_23 : v_pileSize.length = 64) (h_24 : v_planLine.length = 12) (h_25 : v_planWay.length = 12) (h_26 : fr u_row v_row A B9) (h_27 : fr u_col v_column A B9) (h_28 : fr u_sR v_shapeRows a9 b9) (h_29 : fr u_sC v_shapeColumns a9 b9) (h_30 : A ≤ 32 * (1 : Int32).toInt) (h_31 : 32 * (1 : Int32).toInt + 32 ≤ B9) (h_32 : a9 ≤ (1 : Int32).toInt) (h_33 : (1 : Int32).toInt < b9) : wp (fX9_isBehind N x1 v_rowsOf v_columnsOf v_textMany v_base v_at v_ends v_fault v_opened v_bentMany v_bentWrong v_moreWorn v_planned v_allWrong v_allWorn v_z v_limit v_shapeRows v_shapeColumns v_row v_column v_below v_face v_worn v_lastBend v_tape v_text v_names v_bends v_high v_to v_pileSize v_planLine v_planWay) (cu25 (fun (r : Bool) (wv_base : Int32) (wv_at : Int32) (wv_ends : Int32) (wv_fault : Int32) (wv_opened : Int32) (wv_bentMany : Int32) (wv_bentWrong : Int32) (wv_moreWorn : Int32) (wv_allWrong : Int32) (wv_allWorn : Int32) (wv_z : Int32) (wv_shapeRows : List Int32) (wv_shapeColumns : List Int32) (wv_row : List Int32) (wv_column : List Int32) (wv_below : List Int32) (wv_face : List Int32) (wv_worn : List Int32) (wv_lastBend : List Int32) (wv_names : List Int32) (wv_bends : List Int32) (wv_high : List Int32) (wv_to : List Int32) (wv_pileSize : List Int32) => wv_shapeRows.length = 6 ∧ wv_shapeColumns.length = 6 ∧ wv_row.length = 192 ∧ wv_column.length = 192 ∧ wv_below.length = 192 ∧ wv_face.length = 192 ∧ wv_worn.length = 384 ∧ wv_lastBend.length = 384 ∧ wv_names.length = 6 ∧ wv_bends.length = 64 ∧ wv_high.length = 32 ∧ wv_to.length = 32 ∧ wv_pileSize.length = 64 ∧ fr u_row wv_row A B9 ∧ fr u_col wv_column A B9 ∧ fr u_sR wv_shapeRows a9 b9 ∧ fr u_sC wv_shapeColumns a9 b9)) := by
  refine wp_of (uf_X9_isBehind _ _ _ _ _ _ _ _ _ _ _ _ _ _ _ _ _ _ _ _ _ _ _ _ _ _ _ _ _ _ _ _ _ _ _) ?_
  have n_2 : (0 : Int32).toInt = 0 := by decide
  refine wp_if (fun c_1 => ?_) (fun c_1 => ?_)
  ·
    have dc_1 := i_lt c_1
    exact wp_so25 ⟨h_9, h_10, h_11, h_12, h_13, h_14, h_15, h_16, h_19, h_20, h_21, h_22, h_23, h_26, h_27, h_28, h_29⟩
  ·
    have dc_1 := i_nlt c_1
    refine wp_bd25 (sf_X9_goesPlan (u_row := u_row) (u_col := u_col) (u_sR := u_sR) (u_sC := u_sC) (A := A) (B9 := B9) (a9 := a9) (b9 := b9) hN h_0 h_1 h_2 h_3 h_4 h_5 h_6 h_7 h_8 h_9 h_10 h_11 h_12 h_13 h_14 h_15 h_16 h_17 h_18 h_19 h_20 h_21 h_22 h_23 h_24 h_25 h_26 h_27 h_28 h_29 h_30 h_31 h_32 h_33) (fun r_2 w_3 w_4 w_5 w_6 w_7 w_8 w_9 w_10 w_11 w_12 w_13 w_14 w_15 w_16 w_17 w_18 w_19 w_20 w_21 w_22 w_23 w_24 w_25 w_26 ⟨q_3, q_4, q_5, q_6, q_7, q_8, q_9, q_10, q_11, q_12, q_13, q_14, q_15, q_16, q_17, q_18, q_19, q_20⟩ => ?_)
    refine wp_if (fun c_21 => ?_) (fun c_21 => ?_)
    ·
      have dc_21 := i_eq c_21
      exact wp_so25 ⟨q_3, q_4, q_5, q_6, q_7, q_8, q_9, q_10, q_11, q_12, q_13, q_14, q_15, q_16, q_17, q_18, q_19⟩
    ·
      have dc_21 := i_ne c_21
      exact wp_so25 ⟨q_3, q_4, q_5, q_6, q_7, q_8, q_9, q_10, q_11, q_12, q_13, q_14, q_15, q_16, q_17, q_18, q_19⟩
