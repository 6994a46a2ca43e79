/-! safe -/

def fr (l l' : List Int32) (a b : Int) : Prop := l'.length = l.length ∧ ∀ i : Int32, 0 ≤ i.toInt → i.toInt < l.length → (i.toInt < a ∨ b ≤ i.toInt) → mm_ig l' i = mm_ig l i
theorem fr_refl (l : List Int32) (a b : Int) : fr l l a b := ⟨rfl, fun _ _ _ _ => rfl⟩
theorem fr_set {l l' : List Int32} {a b : Int} (h : fr l l' a b) {i x : Int32} (h0 : 0 ≤ i.toInt) (h1 : a ≤ i.toInt) (h2 : i.toInt < b) : fr l (mm_is l' i x) a b := ⟨by rw [is_len]; exact h.1, fun j j0 j1 j2 => by
  rw [ig_is l' i j x j0 (by rw [h.1]; exact j1) h0, if_neg (by omega)]
  exact h.2 j j0 j1 j2⟩
theorem fr_zn {l l' : List Int32} {a b c d lo hi : Int} (h : fr l l' a b) (z : zn l c d lo hi) (k : d ≤ a ∨ b ≤ c) : zn l' c d lo hi := fun i i0 i1 i2 i3 => by
  have e := h.1
  rw [h.2 i i0 (by omega) (by omega)]
  exact z i i0 i1 i2 (by omega)
def lv9 (R C : Int32) (sR sC row col : List Int32) (x : Int32) : Prop := 1 ≤ (mm_ig sR x).toInt ∧ (mm_ig sR x).toInt ≤ 4 ∧ 1 ≤ (mm_ig sC x).toInt ∧ (mm_ig sC x).toInt ≤ 8 ∧ zn row (32 * x.toInt) (32 * x.toInt + R.toInt * C.toInt) 0 (mm_ig sR x).toInt ∧ zn col (32 * x.toInt) (32 * x.toInt + R.toInt * C.toInt) 0 (mm_ig sC x).toInt
theorem lv9_fr {R C x : Int32} {sR sC row col sR' sC' row' col' : List Int32} {a b A B : Int} (h : lv9 R C sR sC row col x) (f1 : fr sR sR' a b) (f2 : fr sC sC' a b) (f3 : fr row row' A B) (f4 : fr col col' A B) (x0 : 0 ≤ x.toInt) (x1 : x.toInt < sR.length ∧ x.toInt < sC.length) (k1 : x.toInt < a ∨ b ≤ x.toInt) (k2 : 32 * x.toInt + 32 ≤ A ∨ B ≤ 32 * x.toInt) (k3 : R.toInt * C.toInt ≤ 32) : lv9 R C sR' sC' row' col' x := by
  obtain ⟨h1, h2, h3, h4, h5, h6⟩ := h
  unfold lv9
  rw [f1.2 x x0 x1.1 k1, f2.2 x x0 x1.2 k1]
  exact ⟨h1, h2, h3, h4, fr_zn f3 h5 (by omega), fr_zn f4 h6 (by omega)⟩
theorem lv9_setR {R C x s : Int32} {sR sC row col : List Int32} (hl : sR.length = 6) (x0 : 0 ≤ x.toInt) (x1 : x.toInt < 6) (h1 : 1 ≤ s.toInt) (h2 : s.toInt ≤ 4) (h3 : 1 ≤ (mm_ig sC x).toInt) (h4 : (mm_ig sC x).toInt ≤ 8) (z1 : zn row (32 * x.toInt) (32 * x.toInt + R.toInt * C.toInt) 0 s.toInt) (z2 : zn col (32 * x.toInt) (32 * x.toInt + R.toInt * C.toInt) 0 (mm_ig sC x).toInt) : lv9 R C (mm_is sR x s) sC row col x := by
  have e : mm_ig (mm_is sR x s) x = s := by rw [ig_is sR x x s x0 (by omega) x0, if_pos rfl]
  unfold lv9
  rw [e]
  exact ⟨h1, h2, h3, h4, z1, z2⟩
theorem lv9_setC {R C x s : Int32} {sR sC row col : List Int32} (hl : sC.length = 6) (x0 : 0 ≤ x.toInt) (x1 : x.toInt < 6) (h1 : 1 ≤ (mm_ig sR x).toInt) (h2 : (mm_ig sR x).toInt ≤ 4) (h3 : 1 ≤ s.toInt) (h4 : s.toInt ≤ 8) (z1 : zn row (32 * x.toInt) (32 * x.toInt + R.toInt * C.toInt) 0 (mm_ig sR x).toInt) (z2 : zn col (32 * x.toInt) (32 * x.toInt + R.toInt * C.toInt) 0 s.toInt) : lv9 R C sR (mm_is sC x s) row col x := by
  have e : mm_ig (mm_is sC x s) x = s := by rw [ig_is sC x x s x0 (by omega) x0, if_pos rfl]
  unfold lv9
  rw [e]
  exact ⟨h1, h2, h3, h4, z1, z2⟩
theorem nb_d (x R C : Int) : 0 ≤ x → 0 < C → x / C < R - 1 → x + C < R * C := fun h0 h1 h2 => by
  have k : x < (x / C + 1) * C := Int.lt_ediv_add_one_mul_self x h1
  have k2 : (x / C + 1) * C ≤ (R - 1) * C := Int.mul_le_mul_of_nonneg_right (by omega) (by omega)
  rw [Int.sub_mul, Int.one_mul] at k2
  omega
theorem nb_q (x R C : Int) : 0 ≤ x → 0 < C → x < R * C → 0 ≤ x / C ∧ x / C < R := fun h0 h1 h2 => ⟨Int.ediv_nonneg h0 (by omega), Int.ediv_lt_of_lt_mul h1 h2⟩

theorem uf_X9_liesFlat_22 (N : Nat) (n : Nat) (x1 : Int32) (x2 : Int32) (v_rowsOf : Int32) (v_columnsOf : Int32) (v_shapeRows : List Int32) (v_shapeColumns : List Int32) (v_row : List Int32) (v_column : List Int32) (v_below : List Int32) (v_face : List Int32) : fX9_liesFlat_22 N (n + 1) x1 x2 v_rowsOf v_columnsOf v_shapeRows v_shapeColumns v_row v_column v_below v_face = 
    mm_bd1 (fX9_fields N v_rowsOf v_columnsOf) (fun (r_5 : Int32) =>
    if r_5 ≤ x2 then
    (some (v_shapeRows, v_shapeColumns, v_row, v_column, v_below, v_face))
    else (mm_ck (mm_nz v_columnsOf) (mm_nm ((x2 / v_columnsOf)) (fun (y_9 : Int32) =>
    mm_ck (mm_inb (((32 : Int32) * x1) + x2) v_row.length) (mm_nm (mm_is v_row (((32 : Int32) * x1) + x2) y_9) (fun (l_11 : List Int32) =>
    mm_ck (mm_nz v_columnsOf) (mm_nm ((mm_rem x2 v_columnsOf)) (fun (y_13 : Int32) =>
    mm_ck (mm_inb (((32 : Int32) * x1) + x2) v_column.length) (mm_nm (mm_is v_column (((32 : Int32) * x1) + x2) y_13) (fun (l_15 : List Int32) =>
    mm_ck (mm_inb (((32 : Int32) * x1) + x2) v_below.length) (mm_nm (mm_is v_below (((32 : Int32) * x1) + x2) (0 : Int32)) (fun (l_17 : List Int32) =>
    mm_ck (mm_inb (((32 : Int32) * x1) + x2) v_face.length) (mm_nm (mm_is v_face (((32 : Int32) * x1) + x2) (0 : Int32)) (fun (l_19 : List Int32) =>
    mm_nm (x2 + (1 : Int32)) (fun (y_20 : Int32) =>
    fX9_liesFlat_22 N n x1 y_20 v_rowsOf v_columnsOf v_shapeRows v_shapeColumns l_11 l_15 l_17 l_19))))))))))))))) := rfl

set_option maxHeartbeats 4000000 in
set_option maxRecDepth 20000 in
theorem sf_X9_liesFlat_22 {N : Nat} (hN : 700 ≤ N) {u_row : List Int32} {u_col : List Int32} {u_sR : List Int32} {u_sC : List Int32} {A : Int} {B9 : Int} {a9 : Int} {b9 : Int} : ∀ (n : Nat) (x1 : Int32) (x2 : Int32) (v_rowsOf : Int32) (v_columnsOf : Int32) (v_shapeRows : List Int32) (v_shapeColumns : List Int32) (v_row : List Int32) (v_column : List Int32) (v_below : List Int32) (v_face : List Int32), 1 ≤ v_rowsOf.toInt → v_rowsOf.toInt ≤ 4 → 1 ≤ v_columnsOf.toInt → v_columnsOf.toInt ≤ 8 → v_shapeRows.length = 6 → v_shapeColumns.length = 6 → v_row.length = 192 → v_column.length = 192 → v_below.length = 192 → v_face.length = 192 → 0 ≤ x1.toInt → x1.toInt ≤ 5 → fr u_row v_row A B9 → fr u_col v_column A B9 → fr u_sR v_shapeRows a9 b9 → fr u_sC v_shapeColumns a9 b9 → A ≤ 32 * x1.toInt → 32 * x1.toInt + 32 ≤ B9 → a9 ≤ x1.toInt → x1.toInt < b9 → (mm_ig v_shapeRows x1).toInt = v_rowsOf.toInt → (mm_ig v_shapeColumns x1).toInt = v_columnsOf.toInt → 0 ≤ x2.toInt → x2.toInt ≤ v_rowsOf.toInt * v_columnsOf.toInt → zn v_row (32 * x1.toInt) (32 * x1.toInt + x2.toInt) 0 v_rowsOf.toInt → zn v_column (32 * x1.toInt) (32 * x1.toInt + x2.toInt) 0 v_columnsOf.toInt → (v_rowsOf.toInt * v_columnsOf.toInt - x2.toInt).toNat < n → wp (fX9_liesFlat_22 N n x1 x2 v_rowsOf v_columnsOf v_shapeRows v_shapeColumns v_row v_column v_below v_face) (cu6 (fun (wv_shapeRows : List Int32) (wv_shapeColumns : List Int32) (wv_row : List Int32) (wv_column : List Int32) (wv_below : List Int32) (wv_face : List Int32) => wv_shapeRows.length = 6 ∧ wv_shapeColumns.length = 6 ∧ wv_row.length = 192 ∧ wv_column.length = 192 ∧ wv_below.length = 192 ∧ wv_face.length = 192 ∧ fr u_row wv_row A B9 ∧ fr u_col wv_column A B9 ∧ fr u_sR wv_shapeRows a9 b9 ∧ fr u_sC wv_shapeColumns a9 b9 ∧ lv9 v_rowsOf v_columnsOf wv_shapeRows wv_shapeColumns wv_row wv_column x1)) := by
  intro n
  induction n with
  | zero =>
    intro x1 x2 v_rowsOf v_columnsOf v_shapeRows v_shapeColumns v_row v_column v_below v_face h_0 h_1 h_2 h_3 h_4 h_5 h_6 h_7 h_8 h_9 h_10 h_11 h_12 h_13 h_14 h_15 h_16 h_17 h_18 h_19 h_20 h_21 h_22 h_23 h_24 h_25 hm
    exact absurd hm (by omega)
  | succ n ih =>
    intro x1 x2 v_rowsOf v_columnsOf v_shapeRows v_shapeColumns v_row v_column v_below v_face h_0 h_1 h_2 h_3 h_4 h_5 h_6 h_7 h_8 h_9 h_10 h_11 h_12 h_13 h_14 h_15 h_16 h_17 h_18 h_19 h_20 h_21 h_22 h_23 h_24 h_25 hm
    have m3 := (i_fl (a := v_rowsOf) (b := v_columnsOf) (by omega) (by omega) (by omega) (by omega)).2
    have nq := nb_q x2.toInt v_rowsOf.toInt v_columnsOf.toInt
    refine wp_of (uf_X9_liesFlat_22 _ _ _ _ _ _ _ _ _ _ _ _) ?_
    refine wp_bd1 (sf_X9_fields hN h_0 h_1 h_2 h_3) (fun r_5 ⟨q_1, q_2, q_3⟩ => ?_)
    refine wp_if (fun c_4 => ?_) (fun c_4 => ?_)
    ·
      have dc_4 := i_le c_4
      exact wp_so6 ⟨h_4, h_5, h_6, h_7, h_8, h_9, h_12, h_13, h_14, h_15, (by first | assumption | exact lv9_fr (by assumption) (by assumption) (by assumption) (by assumption) (by assumption) (by omega) (by omega) (by omega) (by omega) (by omega) | exact ⟨by omega, by omega, by omega, by omega, (by first | assumption | exact zn_nil (by omega) | exact zn_sub h_24 (by omega) (by omega) (by omega) (by omega) | (exfalso; omega)), (by first | assumption | exact zn_nil (by omega) | exact zn_sub h_25 (by omega) (by omega) (by omega) (by omega) | (exfalso; omega))⟩)⟩
    ·
      have dc_4 := i_nle c_4
      refine wp_ck (i_nz (by omega)) ?_
      refine wp_nm (fun y_9 h_y_9 => ?_)
      have e_5 := i_divY h_y_9.symm (by omega)
      have n_6 : (32 : Int32).toInt = 32 := by decide
      generalize hz_z : ((32 : Int32) * x1) = z
      have e_7 := i_mulLE (c := 32) (by decide) hz_z (by omega) (by omega)
      generalize hz_z__8 : (z + x2) = z__8
      have e_9 := i_addE hz_z__8 (by omega) (by omega)
      refine wp_ck (i_inb (by omega) (by omega)) ?_
      refine wp_nm (fun l_11 h_l_11 => ?_)
      have nl_l_11 : l_11.length = 192 := by rw [h_l_11, is_len]; assumption
      refine wp_ck (i_nz (by omega)) ?_
      refine wp_nm (fun y_13 h_y_13 => ?_)
      have e_10 := i_remY h_y_13.symm (by omega)
      refine wp_ck (i_inb (by omega) (by omega)) ?_
      refine wp_nm (fun l_15 h_l_15 => ?_)
      have nl_l_15 : l_15.length = 192 := by rw [h_l_15, is_len]; assumption
      refine wp_ck (i_inb (by omega) (by omega)) ?_
      have n_11 : (0 : Int32).toInt = 0 := by decide
      refine wp_nm (fun l_17 h_l_17 => ?_)
      have nl_l_17 : l_17.length = 192 := by rw [h_l_17, is_len]; assumption
      refine wp_ck (i_inb (by omega) (by omega)) ?_
      refine wp_nm (fun l_19 h_l_19 => ?_)
      have nl_l_19 : l_19.length = 192 := by rw [h_l_19, is_len]; assumption
      have n_12 : (1 : Int32).toInt = 1 := by decide
      refine wp_nm (fun y_20 h_y_20 => ?_)
      have e_13 := i_addE h_y_20.symm (by omega) (by omega)
      exact ih _ _ _ _ _ _ _ _ _ _ h_0 h_1 h_2 h_3 h_4 h_5 nl_l_11 nl_l_15 nl_l_17 nl_l_19 h_10 h_11 (by first | assumption | exact fr_refl _ _ _ | (rw [h_l_11]; exact fr_set (by first | assumption | exact fr_refl _ _ _) (by omega) (by omega) (by omega))) (by first | assumption | exact fr_refl _ _ _ | (rw [h_l_15]; exact fr_set (by first | assumption | exact fr_refl _ _ _) (by omega) (by omega) (by omega))) h_14 h_15 h_16 h_17 h_18 h_19 h_20 h_21 (by omega) (by omega) (by first | assumption | exact zn_nil (by omega) | (rw [h_l_11]; first | exact zn_out h_24 (by omega) (by omega) | exact zn_in h_24 (by omega) (by omega) (by omega) | exact zn_ext h_24 (by omega) (by omega) (by omega) (by omega) (by omega) | exact zn_out (zn_sub h_24 (by omega) (by omega) (by omega) (by omega)) (by omega) (by omega)) | (exfalso; omega)) (by first | assumption | exact zn_nil (by omega) | (rw [h_l_15]; first | exact zn_out h_25 (by omega) (by omega) | exact zn_in h_25 (by omega) (by omega) (by omega) | exact zn_ext h_25 (by omega) (by omega) (by omega) (by omega) (by omega) | exact zn_out (zn_sub h_25 (by omega) (by omega) (by omega) (by omega)) (by omega) (by omega)) | (exfalso; omega)) (by omega)

theorem uf_X9_liesFlat (N : Nat) (x1 : Int32) (v_rowsOf : Int32) (v_columnsOf : Int32) (v_shapeRows : List Int32) (v_shapeColumns : List Int32) (v_row : List Int32) (v_column : List Int32) (v_below : List Int32) (v_face : List Int32) : fX9_liesFlat N x1 v_rowsOf v_columnsOf v_shapeRows v_shapeColumns v_row v_column v_below v_face = mm_ck (mm_inb x1 v_shapeRows.length) (mm_nm (mm_is v_shapeRows x1 v_rowsOf) (fun (l_2 : List Int32) =>
    mm_ck (mm_inb x1 v_shapeColumns.length) (mm_nm (mm_is v_shapeColumns x1 v_columnsOf) (fun (l_4 : List Int32) =>
    fX9_liesFlat_22 N N x1 (0 : Int32) v_rowsOf v_columnsOf l_2 l_4 v_row v_column v_below v_face)))) := rfl

set_option maxHeartbeats 4000000 in
set_option maxRecDepth 20000 in
theorem sf_X9_liesFlat {N : Nat} (hN : 700 ≤ N) {u_row : List Int32} {u_col : List Int32} {u_sR : List Int32} {u_sC : List Int32} {A : Int} {B9 : Int} {a9 : Int} {b9 : Int} {x1 : Int32} {v_rowsOf : Int32} {v_columnsOf : Int32} {v_shapeRows : List Int32} {v_shapeColumns : List Int32} {v_row : List Int32} {v_column : List Int32} {v_below : List Int32} {v_face : List Int32} (h_0 : 1 ≤ v_rowsOf.toInt) (h_1 : v_rowsOf.toInt ≤ 4) (h_2 : 1 ≤ v_columnsOf.toInt) (h_3 : v_columnsOf.toInt ≤ 8) (h_4 : v_shapeRows.length = 6) (h_5 : v_shapeColumns.length = 6) (h_6 : v_row.length = 192) (h_7 : v_column.length = 192) (h_8 : v_below.length = 192) (h_9 : v_face.length = 192) (h_10 : 0 ≤ x1.toInt) (h_11 : x1.toInt ≤ 5) (h_12 : fr u_row v_row A B9) (h_13 : fr u_col v_column A B9) (h_14 : fr u_sR v_shapeRows a9 b9) (h_15 : fr u_sC v_shapeColumns a9 b9) (h_16 : A ≤ 32 * x1.toInt) (h_17 : 32 * x1.toInt + 32 ≤ B9) (h_18 : a9 ≤ x1.toInt) (h_19 : x1.toInt < b9) : wp (fX9_liesFlat N x1 v_rowsOf v_columnsOf v_shapeRows v_shapeColumns v_row v_column v_below v_face) (cu6 (fun (wv_shapeRows : List Int32) (wv_shapeColumns : List Int32) (wv_row : List Int32) (wv_column : List Int32) (wv_below : List Int32) (wv_face : List Int32) => wv_shapeRows.length = 6 ∧ wv_shapeColumns.length = 6 ∧ wv_row.length = 192 ∧ wv_column.length = 192 ∧ wv_below.length = 192 ∧ wv_face.length = 192 ∧ fr u_row wv_row A B9 ∧ fr u_col wv_column A B9 ∧ fr u_sR wv_shapeRows a9 b9 ∧ fr u_sC wv_shapeColumns a9 b9 ∧ lv9 v_rowsOf v_columnsOf wv_shapeRows wv_shapeColumns wv_row wv_column x1)) := by
  have m3 := (i_fl (a := v_rowsOf) (b := v_columnsOf) (by omega) (by omega) (by omega) (by omega)).2
  refine wp_of (uf_X9_liesFlat _ _ _ _ _ _ _ _ _ _) ?_
  refine wp_ck (i_inb (by omega) (by omega)) ?_
  refine wp_nm (fun l_2 h_l_2 => ?_)
  have nl_l_2 : l_2.length = 6 := by rw [h_l_2, is_len]; assumption
  have w_l_2 : (mm_ig l_2 x1).toInt = (v_rowsOf).toInt := by rw [h_l_2, ig_is _ _ _ _ (by omega) (by omega) (by omega), if_pos rfl]
  refine wp_ck (i_inb (by omega) (by omega)) ?_
  refine wp_nm (fun l_4 h_l_4 => ?_)
  have nl_l_4 : l_4.length = 6 := by rw [h_l_4, is_len]; assumption
  have w_l_4 : (mm_ig l_4 x1).toInt = (v_columnsOf).toInt := by rw [h_l_4, ig_is _ _ _ _ (by omega) (by omega) (by omega), if_pos rfl]
  have n_1 : (0 : Int32).toInt = 0 := by decide
  exact sf_X9_liesFlat_22 (u_row := u_row) (u_col := u_col) (u_sR := u_sR) (u_sC := u_sC) (A := A) (B9 := B9) (a9 := a9) (b9 := b9) hN _ _ _ _ _ _ _ _ _ _ _ h_0 h_1 h_2 h_3 nl_l_2 nl_l_4 h_6 h_7 h_8 h_9 h_10 h_11 h_12 h_13 (by first | assumption | exact fr_refl _ _ _ | (rw [h_l_2]; exact fr_set (by first | assumption | exact fr_refl _ _ _) (by omega) (by omega) (by omega))) (by first | assumption | exact fr_refl _ _ _ | (rw [h_l_4]; exact fr_set (by first | assumption | exact fr_refl _ _ _) (by omega) (by omega) (by omega))) h_16 h_17 h_18 h_19 (by omega) (by omega) (by omega) (by omega) (by first | assumption | exact zn_nil (by omega) | (exfalso; omega)) (by first | assumption | exact zn_nil (by omega) | (exfalso; omega)) (by omega)

theorem uf_X9_isCrease (N : Nat) (x1 : Int32) (v_rowsOf : Int32) (v_columnsOf : Int32) : fX9_isCrease N x1 v_rowsOf v_columnsOf = mm_ck (mm_nz (2 : Int32)) (mm_nm ((x1 / (2 : Int32))) (fun (y_2 : Int32) =>
    mm_bd1 (fX9_fields N v_rowsOf v_columnsOf) (fun (r_3 : Int32) =>
    mm_bd1 (fX9_within N ((y_2).toInt64) (0 : Int64) ((r_3 - (1 : Int32)).toInt64)) (fun (r_5 : Bool) =>
    if r_5 = false then
    (some (false))
    else (mm_ck (mm_nz (2 : Int32)) (if (mm_rem x1 (2 : Int32)) = 0 then
    (mm_ck (mm_nz v_columnsOf) (if (v_columnsOf - (1 : Int32)) ≤ (mm_rem y_2 v_columnsOf) then
    (some (false))
    else (some (true))))
    else (mm_ck (mm_nz v_columnsOf) (if (v_rowsOf - (1 : Int32)) ≤ (y_2 / v_columnsOf) then
    (some (false))
    else (some (true)))))))))) := rfl

set_option maxHeartbeats 4000000 in
set_option maxRecDepth 20000 in
theorem sf_X9_isCrease {N : Nat} (hN : 700 ≤ N) {x1 : Int32} {v_rowsOf : Int32} {v_columnsOf : Int32} (h_0 : 1 ≤ v_rowsOf.toInt) (h_1 : v_rowsOf.toInt ≤ 4) (h_2 : 1 ≤ v_columnsOf.toInt) (h_3 : v_columnsOf.toInt ≤ 8) (h_4 : 0 ≤ x1.toInt) : wp (fX9_isCrease N x1 v_rowsOf v_columnsOf) (fun (r : Bool) => ((r = true ∧ x1.toInt < 2 * (v_rowsOf.toInt * v_columnsOf.toInt) ∧ (x1.toInt % 2 = 0 → x1.toInt / 2 + 1 < v_rowsOf.toInt * v_columnsOf.toInt) ∧ (x1.toInt % 2 = 1 → x1.toInt / 2 + v_columnsOf.toInt < v_rowsOf.toInt * v_columnsOf.toInt)) ∨ (r = false ∧ True))) := by
  have m3 := (i_fl (a := v_rowsOf) (b := v_columnsOf) (by omega) (by omega) (by omega) (by omega)).2
  refine wp_of (uf_X9_isCrease _ _ _ _) ?_
  have n_1 : (2 : Int32).toInt = 2 := by decide
  refine wp_ck (i_nz (by omega)) ?_
  refine wp_nm (fun y_2 h_y_2 => ?_)
  have e_2 := i_divL (c := 2) (by decide) (by decide) h_y_2.symm
  refine wp_bd1 (sf_X9_fields hN h_0 h_1 h_2 h_3) (fun r_3 ⟨q_3, q_4, q_5⟩ => ?_)
  have n_6 := i_64 y_2
  have n_7 : (0 : Int64).toInt = 0 := by decide
  have n_8 : (1 : Int32).toInt = 1 := by decide
  generalize hz_z : (r_3 - (1 : Int32)) = z
  have e_9 := i_subE hz_z (by omega) (by omega)
  have n_10 := i_64 z
  refine wp_bd1 (sf_X9_within hN ) (fun r_5 q_11 => ?_)
  rcases q_11 with ⟨rfl, q_11⟩ | ⟨rfl, q_11⟩
  ·
    refine wp_ifn (by decide) ?_
    refine wp_ck (i_nz (by omega)) ?_
    generalize hz_z__13 : (mm_rem x1 (2 : Int32)) = z__13
    have e_14 := i_remL (c := 2) (by decide) (by decide) hz_z__13
    have n_15 : (0 : Int32).toInt = 0 := by decide
    refine wp_if (fun c_12 => ?_) (fun c_12 => ?_)
    ·
      have dc_12 := i_eq c_12
      refine wp_ck (i_nz (by omega)) ?_
      generalize hz_z__17 : (v_columnsOf - (1 : Int32)) = z__17
      have e_18 := i_subE hz_z__17 (by omega) (by omega)
      generalize hz_z__19 : (mm_rem y_2 v_columnsOf) = z__19
      have nb_20 := nb_r y_2.toInt v_rowsOf.toInt v_columnsOf.toInt
      have e_20 := i_remY hz_z__19 (by omega)
      refine wp_if (fun c_16 => ?_) (fun c_16 => ?_)
      ·
        have dc_16 := i_le c_16
        exact wp_so1 (by first | exact Or.inl ⟨rfl, by first | trivial | omega⟩ | exact Or.inr ⟨rfl, by first | trivial | omega⟩)
      ·
        have dc_16 := i_nle c_16
        exact wp_so1 (by first | exact Or.inl ⟨rfl, by first | trivial | omega⟩ | exact Or.inr ⟨rfl, by first | trivial | omega⟩)
    ·
      have dc_12 := i_ne c_12
      refine wp_ck (i_nz (by omega)) ?_
      generalize hz_z__22 : (v_rowsOf - (1 : Int32)) = z__22
      have e_23 := i_subE hz_z__22 (by omega) (by omega)
      generalize hz_z__24 : (y_2 / v_columnsOf) = z__24
      have nd_25 := nb_d y_2.toInt v_rowsOf.toInt v_columnsOf.toInt
      have e_25 := i_divY hz_z__24 (by omega)
      refine wp_if (fun c_21 => ?_) (fun c_21 => ?_)
      ·
        have dc_21 := i_le c_21
        exact wp_so1 (by first | exact Or.inl ⟨rfl, by first | trivial | omega⟩ | exact Or.inr ⟨rfl, by first | trivial | omega⟩)
      ·
        have dc_21 := i_nle c_21
        exact wp_so1 (by first | exact Or.inl ⟨rfl, by first | trivial | omega⟩ | exact Or.inr ⟨rfl, by first | trivial | omega⟩)
  ·
    refine wp_ifp (by decide) ?_
    exact wp_so1 (by first | exact Or.inl ⟨rfl, by first | trivial | omega⟩ | exact Or.inr ⟨rfl, by first | trivial | omega⟩)

theorem uf_X9_otherOf (N : Nat) (x1 : Int32) (v_columnsOf : Int32) : fX9_otherOf N x1 v_columnsOf = mm_ck (mm_nz (2 : Int32)) (if (mm_rem x1 (2 : Int32)) = 0 then
    (mm_ck (mm_nz (2 : Int32)) (some (((x1 / (2 : Int32)) + (1 : Int32)))))
    else (mm_ck (mm_nz (2 : Int32)) (some (((x1 / (2 : Int32)) + v_columnsOf))))) := rfl

set_option maxHeartbeats 4000000 in
set_option maxRecDepth 20000 in
theorem sf_X9_otherOf {N : Nat} (hN : 700 ≤ N) {x1 : Int32} {v_columnsOf : Int32} (h_0 : 1 ≤ v_columnsOf.toInt) (h_1 : v_columnsOf.toInt ≤ 8) (h_2 : 0 ≤ x1.toInt) (h_3 : x1.toInt < 64) : wp (fX9_otherOf N x1 v_columnsOf) (fun (r : Int32) => ((x1.toInt % 2 = 0 → r.toInt = x1.toInt / 2 + 1)) ∧ ((x1.toInt % 2 = 1 → r.toInt = x1.toInt / 2 + v_columnsOf.toInt))) := by
  refine wp_of (uf_X9_otherOf _ _ _) ?_
  have n_1 : (2 : Int32).toInt = 2 := by decide
  refine wp_ck (i_nz (by omega)) ?_
  generalize hz_z : (mm_rem x1 (2 : Int32)) = z
  have e_3 := i_remE (c := 2) (by decide) (by decide) hz_z (by omega)
  have n_4 : (0 : Int32).toInt = 0 := by decide
  refine wp_if (fun c_2 => ?_) (fun c_2 => ?_)
  ·
    have dc_2 := i_eq c_2
    refine wp_ck (i_nz (by omega)) ?_
    generalize hz_z__5 : (x1 / (2 : Int32)) = z__5
    have e_6 := i_divE (c := 2) (by decide) (by decide) hz_z__5 (by omega)
    have n_7 : (1 : Int32).toInt = 1 := by decide
    generalize hz_z__8 : (z__5 + (1 : Int32)) = z__8
    have e_9 := i_addE hz_z__8 (by omega) (by omega)
    exact wp_so1 ⟨(by omega), (by omega)⟩
  ·
    have dc_2 := i_ne c_2
    refine wp_ck (i_nz (by omega)) ?_
    generalize hz_z__10 : (x1 / (2 : Int32)) = z__10
    have e_11 := i_divE (c := 2) (by decide) (by decide) hz_z__10 (by omega)
    generalize hz_z__12 : (z__10 + v_columnsOf) = z__12
    have e_13 := i_addE hz_z__12 (by omega) (by omega)
    exact wp_so1 ⟨(by omega), (by omega)⟩

theorem uf_X9_isLine (N : Nat) (x1 : Int32) (x2 : Int32) (x3 : Int32) (v_shapeRows : List Int32) (v_shapeColumns : List Int32) : fX9_isLine N x1 x2 x3 v_shapeRows v_shapeColumns = if (4 : Int32) ≤ x3 then
    (mm_ck (mm_inb x1 v_shapeRows.length) (fX9_isLine_23 N (mm_ig v_shapeRows x1) (1 : Int64) ((x2).toInt64) v_shapeRows v_shapeColumns))
    else (mm_ck (mm_inb x1 v_shapeColumns.length) (fX9_isLine_23 N (mm_ig v_shapeColumns x1) (1 : Int64) ((x2).toInt64) v_shapeRows v_shapeColumns)) := rfl

theorem uf_X9_isLine_23 (N : Nat) (s0 : Int32) (s1 : Int64) (s2 : Int64) (v_shapeRows : List Int32) (v_shapeColumns : List Int32) : fX9_isLine_23 N s0 s1 s2 v_shapeRows v_shapeColumns = mm_bd1 (fX9_within N s2 s1 ((s0 - (1 : Int32)).toInt64)) (fun (r_4 : Bool) =>
    some (r_4)) := rfl

set_option maxHeartbeats 4000000 in
set_option maxRecDepth 20000 in
theorem sf_X9_isLine {N : Nat} (hN : 700 ≤ N) {x1 : Int32} {x2 : Int32} {x3 : Int32} {v_shapeRows : List Int32} {v_shapeColumns : List Int32} (h_0 : v_shapeRows.length = 6) (h_1 : v_shapeColumns.length = 6) (h_2 : 0 ≤ x1.toInt) (h_3 : x1.toInt ≤ 5) (h_4 : 1 ≤ (mm_ig v_shapeRows x1).toInt) (h_5 : 1 ≤ (mm_ig v_shapeColumns x1).toInt) (h_6 : (mm_ig v_shapeRows x1).toInt ≤ 4) (h_7 : (mm_ig v_shapeColumns x1).toInt ≤ 8) : wp (fX9_isLine N x1 x2 x3 v_shapeRows v_shapeColumns) (fun (r : Bool) => ((r = true ∧ 1 ≤ x2.toInt ∧ (x3.toInt < 4 → x2.toInt < (mm_ig v_shapeColumns x1).toInt) ∧ (4 ≤ x3.toInt → x2.toInt < (mm_ig v_shapeRows x1).toInt)) ∨ (r = false ∧ True))) := by
  refine wp_of (uf_X9_isLine _ _ _ _ _ _) ?_
  have n_2 : (4 : Int32).toInt = 4 := by decide
  refine wp_if (fun c_1 => ?_) (fun c_1 => ?_)
  ·
    have dc_1 := i_le c_1
    refine wp_ck (i_inb (by omega) (by omega)) ?_
    refine wp_of (uf_X9_isLine_23 _ _ _ _ _ _) ?_
    have n_3 := i_64 x2
    have n_4 : (1 : Int64).toInt = 1 := by decide
    have n_5 : (1 : Int32).toInt = 1 := by decide
    generalize hz_z : ((mm_ig v_shapeRows x1) - (1 : Int32)) = z
    have e_6 := i_subE hz_z (by omega) (by omega)
    have n_7 := i_64 z
    refine wp_bd1 (sf_X9_within hN ) (fun r_4 q_8 => ?_)
    rcases q_8 with ⟨rfl, q_8⟩ | ⟨rfl, q_8⟩
    ·
      exact wp_so1 (by first | exact Or.inl ⟨rfl, by first | trivial | omega⟩ | exact Or.inr ⟨rfl, by first | trivial | omega⟩)
    ·
      exact wp_so1 (by first | exact Or.inl ⟨rfl, by first | trivial | omega⟩ | exact Or.inr ⟨rfl, by first | trivial | omega⟩)
  ·
    have dc_1 := i_nle c_1
    refine wp_ck (i_inb (by omega) (by omega)) ?_
    refine wp_of (uf_X9_isLine_23 _ _ _ _ _ _) ?_
    have n_9 := i_64 x2
    have n_10 : (1 : Int64).toInt = 1 := by decide
    have n_11 : (1 : Int32).toInt = 1 := by decide
    generalize hz_z__12 : ((mm_ig v_shapeColumns x1) - (1 : Int32)) = z__12
    have e_13 := i_subE hz_z__12 (by omega) (by omega)
    have n_14 := i_64 z__12
    refine wp_bd1 (sf_X9_within hN ) (fun r_4__15 q_16 => ?_)
    rcases q_16 with ⟨rfl, q_16⟩ | ⟨rfl, q_16⟩
    ·
      exact wp_so1 (by first | exact Or.inl ⟨rfl, by first | trivial | omega⟩ | exact Or.inr ⟨rfl, by first | trivial | omega⟩)
    ·
      exact wp_so1 (by first | exact Or.inl ⟨rfl, by first | trivial | omega⟩ | exact Or.inr ⟨rfl, by first | trivial | omega⟩)

theorem uf_X9_bendOf_184 (N : Nat) (x1 : Int32) (x4 : Int32) (s0 : Int32) (v_columnsOf : Int32) (v_limit : List Int32) (v_row : List Int32) (v_column : List Int32) (v_face : List Int32) (v_worn : List Int32) : fX9_bendOf_184 N x1 x4 s0 v_columnsOf v_limit v_row v_column v_face v_worn = mm_ck (mm_nz (2 : Int32)) (if (mm_rem x4 (2 : Int32)) = 0 then
    (fX9_bendOf_198 N x1 s0 (1 : Int32) v_columnsOf v_limit v_row v_column v_face v_worn)
    else (fX9_bendOf_198 N x1 s0 (0 : Int32) v_columnsOf v_limit v_row v_column v_face v_worn)) := rfl

theorem uf_X9_bendOf_198 (N : Nat) (x1 : Int32) (x12 : Int32) (s0 : Int32) (v_columnsOf : Int32) (v_limit : List Int32) (v_row : List Int32) (v_column : List Int32) (v_face : List Int32) (v_worn : List Int32) : fX9_bendOf_198 N x1 x12 s0 v_columnsOf v_limit v_row v_column v_face v_worn = mm_ck (mm_inb (((32 : Int32) * x1) + x12) v_face.length) (if (mm_ig v_face (((32 : Int32) * x1) + x12)) = 0 then
    (fX9_bendOf_220 N s0 (1 : Int32) v_columnsOf v_limit v_row v_column v_face v_worn)
    else (fX9_bendOf_220 N s0 (0 : Int32) v_columnsOf v_limit v_row v_column v_face v_worn)) := rfl

theorem uf_X9_bendOf_220 (N : Nat) (x13 : Int32) (s0 : Int32) (v_columnsOf : Int32) (v_limit : List Int32) (v_row : List Int32) (v_column : List Int32) (v_face : List Int32) (v_worn : List Int32) : fX9_bendOf_220 N x13 s0 v_columnsOf v_limit v_row v_column v_face v_worn = if s0 = x13 then
    (some ((1 : Int32)))
    else (some ((2 : Int32))) := rfl

set_option maxHeartbeats 4000000 in
set_option maxRecDepth 20000 in
theorem sf_X9_bendOf_184 {N : Nat} (hN : 700 ≤ N) {x1 : Int32} {x4 : Int32} {s0 : Int32} {v_columnsOf : Int32} {v_limit : List Int32} {v_row : List Int32} {v_column : List Int32} {v_face : List Int32} {v_worn : List Int32} (h_0 : 1 ≤ v_columnsOf.toInt) (h_1 : v_columnsOf.toInt ≤ 8) (h_2 : v_limit.length = 1) (h_3 : v_row.length = 192) (h_4 : v_column.length = 192) (h_5 : v_face.length = 192) (h_6 : v_worn.length = 384) (h_7 : 0 ≤ x1.toInt) (h_8 : x1.toInt ≤ 5) (h_9 : 0 ≤ s0.toInt) (h_10 : s0.toInt < 32) : wp (fX9_bendOf_184 N x1 x4 s0 v_columnsOf v_limit v_row v_column v_face v_worn) (fun (r : Int32) => True) := by
  refine wp_of (uf_X9_bendOf_184 _ _ _ _ _ _ _ _ _ _) ?_
  have n_1 : (2 : Int32).toInt = 2 := by decide
  refine wp_ck (i_nz (by omega)) ?_
  generalize hz_z : (mm_rem x4 (2 : Int32)) = z
  have e_3 := i_remL (c := 2) (by decide) (by decide) hz_z
  have n_4 : (0 : Int32).toInt = 0 := by decide
  refine wp_if (fun c_2 => ?_) (fun c_2 => ?_)
  ·
    have dc_2 := i_eq c_2
    refine wp_of (uf_X9_bendOf_198 _ _ _ _ _ _ _ _ _ _) ?_
    have n_5 : (32 : Int32).toInt = 32 := by decide
    generalize hz_z__6 : ((32 : Int32) * x1) = z__6
    have e_7 := i_mulLE (c := 32) (by decide) hz_z__6 (by omega) (by omega)
    generalize hz_z__8 : (z__6 + s0) = z__8
    have e_9 := i_addE hz_z__8 (by omega) (by omega)
    refine wp_ck (i_inb (by omega) (by omega)) ?_
    refine wp_if (fun c_10 => ?_) (fun c_10 => ?_)
    ·
      have dc_10 := i_eq c_10
      refine wp_of (uf_X9_bendOf_220 _ _ _ _ _ _ _ _ _) ?_
      refine wp_ifp (by decide) ?_
      exact wp_so1 trivial
    ·
      have dc_10 := i_ne c_10
      refine wp_of (uf_X9_bendOf_220 _ _ _ _ _ _ _ _ _) ?_
      refine wp_ifn (by decide) ?_
      exact wp_so1 trivial
  ·
    have dc_2 := i_ne c_2
    refine wp_of (uf_X9_bendOf_198 _ _ _ _ _ _ _ _ _ _) ?_
    have n_11 : (32 : Int32).toInt = 32 := by decide
    generalize hz_z__12 : ((32 : Int32) * x1) = z__12
    have e_13 := i_mulLE (c := 32) (by decide) hz_z__12 (by omega) (by omega)
    generalize hz_z__14 : (z__12 + s0) = z__14
    have e_15 := i_addE hz_z__14 (by omega) (by omega)
    refine wp_ck (i_inb (by omega) (by omega)) ?_
    refine wp_if (fun c_16 => ?_) (fun c_16 => ?_)
    ·
      have dc_16 := i_eq c_16
      refine wp_of (uf_X9_bendOf_220 _ _ _ _ _ _ _ _ _) ?_
      refine wp_ifn (by decide) ?_
      exact wp_so1 trivial
    ·
      have dc_16 := i_ne c_16
      refine wp_of (uf_X9_bendOf_220 _ _ _ _ _ _ _ _ _) ?_
      refine wp_ifp (by decide) ?_
      exact wp_so1 trivial

theorem uf_X9_bendOf_118 (N : Nat) (x1 : Int32) (x2 : Int32) (x3 : Int32) (x4 : Int32) (x5 : Int32) (x6 : Int32) (x8 : Int32) (s0 : Int32) (s1 : Int32) (s2 : Int32) (s4 : Int32) (v_columnsOf : Int32) (v_limit : List Int32) (v_row : List Int32) (v_column : List Int32) (v_face : List Int32) (v_worn : List Int32) : fX9_bendOf_118 N x1 x2 x3 x4 x5 x6 x8 s0 s1 s2 s4 v_columnsOf v_limit v_row v_column v_face v_worn = mm_bd1 (fX9_placeOf N s2 s1 s0 v_row v_column) (fun (r_17 : Int32) =>
    if s4 = r_17 then
    (mm_ck (mm_inb (((64 : Int32) * x1) + x2) v_worn.length) (mm_ck (mm_inb (0 : Int32) v_limit.length) (if (mm_ig v_worn (((64 : Int32) * x1) + x2)) < (mm_ig v_limit (0 : Int32)) then
    (mm_ck (mm_nz (4 : Int32)) (if (2 : Int32) ≤ (mm_rem x4 (4 : Int32)) then
    (fX9_bendOf_159 N x1 x3 x4 x5 x6 x8 (0 : Int32) v_columnsOf v_limit v_row v_column v_face v_worn)
    else (fX9_bendOf_159 N x1 x3 x4 x5 x6 x8 (1 : Int32) v_columnsOf v_limit v_row v_column v_face v_worn)))
    else (some ((0 : Int32))))))
    else (some ((0 : Int32)))) := rfl

theorem uf_X9_bendOf_159 (N : Nat) (x1 : Int32) (x3 : Int32) (x4 : Int32) (x5 : Int32) (x6 : Int32) (x8 : Int32) (s0 : Int32) (v_columnsOf : Int32) (v_limit : List Int32) (v_row : List Int32) (v_column : List Int32) (v_face : List Int32) (v_worn : List Int32) : fX9_bendOf_159 N x1 x3 x4 x5 x6 x8 s0 v_columnsOf v_limit v_row v_column v_face v_worn = if x3 ≤ x8 then
    (fX9_bendOf_172 N x1 x4 x5 x6 s0 (0 : Int32) v_columnsOf v_limit v_row v_column v_face v_worn)
    else (fX9_bendOf_172 N x1 x4 x5 x6 s0 (1 : Int32) v_columnsOf v_limit v_row v_column v_face v_worn) := rfl

theorem uf_X9_bendOf_172 (N : Nat) (x1 : Int32) (x4 : Int32) (x5 : Int32) (x6 : Int32) (x11 : Int32) (s0 : Int32) (v_columnsOf : Int32) (v_limit : List Int32) (v_row : List Int32) (v_column : List Int32) (v_face : List Int32) (v_worn : List Int32) : fX9_bendOf_172 N x1 x4 x5 x6 x11 s0 v_columnsOf v_limit v_row v_column v_face v_worn = if s0 = x11 then
    (fX9_bendOf_184 N x1 x4 x5 v_columnsOf v_limit v_row v_column v_face v_worn)
    else (fX9_bendOf_184 N x1 x4 x6 v_columnsOf v_limit v_row v_column v_face v_worn) := rfl

theorem uf_X9_placeOf (N : Nat) (x1 : Int32) (x2 : Int32) (x3 : Int32) (v_row : List Int32) (v_column : List Int32) : fX9_placeOf N x1 x2 x3 v_row v_column = if x3 = 0 then
    (mm_ck (mm_inb (((32 : Int32) * x1) + x2) v_row.length) (some ((mm_ig v_row (((32 : Int32) * x1) + x2)))))
    else (mm_ck (mm_inb (((32 : Int32) * x1) + x2) v_column.length) (some ((mm_ig v_column (((32 : Int32) * x1) + x2))))) := rfl

set_option maxHeartbeats 4000000 in
set_option maxRecDepth 20000 in
theorem sf_X9_bendOf_118 {N : Nat} (hN : 700 ≤ N) {x1 : Int32} {x2 : Int32} {x3 : Int32} {x4 : Int32} {x5 : Int32} {x6 : Int32} {x8 : Int32} {s0 : Int32} {s1 : Int32} {s2 : Int32} {s4 : Int32} {v_columnsOf : Int32} {v_limit : List Int32} {v_row : List Int32} {v_column : List Int32} {v_face : List Int32} {v_worn : List Int32} (h_0 : 1 ≤ v_columnsOf.toInt) (h_1 : v_columnsOf.toInt ≤ 8) (h_2 : v_limit.length = 1) (h_3 : v_row.length = 192) (h_4 : v_column.length = 192) (h_5 : v_face.length = 192) (h_6 : v_worn.length = 384) (h_7 : 0 ≤ x1.toInt) (h_8 : x1.toInt ≤ 5) (h_9 : 0 ≤ x2.toInt) (h_10 : x2.toInt < 64) (h_11 : 0 ≤ x5.toInt) (h_12 : x5.toInt < 32) (h_13 : 0 ≤ x6.toInt) (h_14 : x6.toInt < 32) (h_15 : 0 ≤ s1.toInt) (h_16 : s1.toInt < 32) (h_17 : 0 ≤ s2.toInt) (h_18 : s2.toInt ≤ 5) : wp (fX9_bendOf_118 N x1 x2 x3 x4 x5 x6 x8 s0 s1 s2 s4 v_columnsOf v_limit v_row v_column v_face v_worn) (fun (r : Int32) => True) := by
  refine wp_of (uf_X9_bendOf_118 _ _ _ _ _ _ _ _ _ _ _ _ _ _ _ _ _ _) ?_
  refine wp_in1 ?_
  refine wp_of (uf_X9_placeOf _ _ _ _ _ _) ?_
  have n_2 : (0 : Int32).toInt = 0 := by decide
  refine wp_if (fun c_1 => ?_) (fun c_1 => ?_)
  ·
    have dc_1 := i_eq c_1
    have n_3 : (32 : Int32).toInt = 32 := by decide
    generalize hz_z : ((32 : Int32) * s2) = z
    have e_4 := i_mulLE (c := 32) (by decide) hz_z (by omega) (by omega)
    generalize hz_z__5 : (z + s1) = z__5
    have e_6 := i_addE hz_z__5 (by omega) (by omega)
    refine wp_ck (i_inb (by omega) (by omega)) ?_
    refine wp_so1 ?_
    show wp _ _
    refine wp_if (fun c_7 => ?_) (fun c_7 => ?_)
    ·
      have dc_7 := i_eq c_7
      have n_8 : (64 : Int32).toInt = 64 := by decide
      generalize hz_z__9 : ((64 : Int32) * x1) = z__9
      have e_10 := i_mulLE (c := 64) (by decide) hz_z__9 (by omega) (by omega)
      generalize hz_z__11 : (z__9 + x2) = z__11
      have e_12 := i_addE hz_z__11 (by omega) (by omega)
      refine wp_ck (i_inb (by omega) (by omega)) ?_
      refine wp_ck (i_inb (by omega) (by omega)) ?_
      refine wp_if (fun c_13 => ?_) (fun c_13 => ?_)
      ·
        have dc_13 := i_lt c_13
        have n_14 : (4 : Int32).toInt = 4 := by decide
        refine wp_ck (i_nz (by omega)) ?_
        have n_16 : (2 : Int32).toInt = 2 := by decide
        generalize hz_z__17 : (mm_rem x4 (4 : Int32)) = z__17
        have e_18 := i_remL (c := 4) (by decide) (by decide) hz_z__17
        refine wp_if (fun c_15 => ?_) (fun c_15 => ?_)
        ·
          have dc_15 := i_le c_15
          refine wp_of (uf_X9_bendOf_159 _ _ _ _ _ _ _ _ _ _ _ _ _ _) ?_
          refine wp_if (fun c_19 => ?_) (fun c_19 => ?_)
          ·
            have dc_19 := i_le c_19
            refine wp_of (uf_X9_bendOf_172 _ _ _ _ _ _ _ _ _ _ _ _ _) ?_
            refine wp_ifp (by decide) ?_
            exact sf_X9_bendOf_184 hN h_0 h_1 h_2 h_3 h_4 h_5 h_6 h_7 h_8 h_11 h_12
          ·
            have dc_19 := i_nle c_19
            refine wp_of (uf_X9_bendOf_172 _ _ _ _ _ _ _ _ _ _ _ _ _) ?_
            refine wp_ifn (by decide) ?_
            exact sf_X9_bendOf_184 hN h_0 h_1 h_2 h_3 h_4 h_5 h_6 h_7 h_8 h_13 h_14
        ·
          have dc_15 := i_nle c_15
          refine wp_of (uf_X9_bendOf_159 _ _ _ _ _ _ _ _ _ _ _ _ _ _) ?_
          refine wp_if (fun c_20 => ?_) (fun c_20 => ?_)
          ·
            have dc_20 := i_le c_20
            refine wp_of (uf_X9_bendOf_172 _ _ _ _ _ _ _ _ _ _ _ _ _) ?_
            refine wp_ifn (by decide) ?_
            exact sf_X9_bendOf_184 hN h_0 h_1 h_2 h_3 h_4 h_5 h_6 h_7 h_8 h_13 h_14
          ·
            have dc_20 := i_nle c_20
            refine wp_of (uf_X9_bendOf_172 _ _ _ _ _ _ _ _ _ _ _ _ _) ?_
            refine wp_ifp (by decide) ?_
            exact sf_X9_bendOf_184 hN h_0 h_1 h_2 h_3 h_4 h_5 h_6 h_7 h_8 h_11 h_12
      ·
        have dc_13 := i_nlt c_13
        exact wp_so1 trivial
    ·
      have dc_7 := i_ne c_7
      exact wp_so1 trivial
  ·
    have dc_1 := i_ne c_1
    have n_21 : (32 : Int32).toInt = 32 := by decide
    generalize hz_z__22 : ((32 : Int32) * s2) = z__22
    have e_23 := i_mulLE (c := 32) (by decide) hz_z__22 (by omega) (by omega)
    generalize hz_z__24 : (z__22 + s1) = z__24
    have e_25 := i_addE hz_z__24 (by omega) (by omega)
    refine wp_ck (i_inb (by omega) (by omega)) ?_
    refine wp_so1 ?_
    show wp _ _
    refine wp_if (fun c_26 => ?_) (fun c_26 => ?_)
    ·
      have dc_26 := i_eq c_26
      have n_27 : (64 : Int32).toInt = 64 := by decide
      generalize hz_z__28 : ((64 : Int32) * x1) = z__28
      have e_29 := i_mulLE (c := 64) (by decide) hz_z__28 (by omega) (by omega)
      generalize hz_z__30 : (z__28 + x2) = z__30
      have e_31 := i_addE hz_z__30 (by omega) (by omega)
      refine wp_ck (i_inb (by omega) (by omega)) ?_
      refine wp_ck (i_inb (by omega) (by omega)) ?_
      refine wp_if (fun c_32 => ?_) (fun c_32 => ?_)
      ·
        have dc_32 := i_lt c_32
        have n_33 : (4 : Int32).toInt = 4 := by decide
        refine wp_ck (i_nz (by omega)) ?_
        have n_35 : (2 : Int32).toInt = 2 := by decide
        generalize hz_z__36 : (mm_rem x4 (4 : Int32)) = z__36
        have e_37 := i_remL (c := 4) (by decide) (by decide) hz_z__36
        refine wp_if (fun c_34 => ?_) (fun c_34 => ?_)
        ·
          have dc_34 := i_le c_34
          refine wp_of (uf_X9_bendOf_159 _ _ _ _ _ _ _ _ _ _ _ _ _ _) ?_
          refine wp_if (fun c_38 => ?_) (fun c_38 => ?_)
          ·
            have dc_38 := i_le c_38
            refine wp_of (uf_X9_bendOf_172 _ _ _ _ _ _ _ _ _ _ _ _ _) ?_
            refine wp_ifp (by decide) ?_
            exact sf_X9_bendOf_184 hN h_0 h_1 h_2 h_3 h_4 h_5 h_6 h_7 h_8 h_11 h_12
          ·
            have dc_38 := i_nle c_38
            refine wp_of (uf_X9_bendOf_172 _ _ _ _ _ _ _ _ _ _ _ _ _) ?_
            refine wp_ifn (by decide) ?_
            exact sf_X9_bendOf_184 hN h_0 h_1 h_2 h_3 h_4 h_5 h_6 h_7 h_8 h_13 h_14
        ·
          have dc_34 := i_nle c_34
          refine wp_of (uf_X9_bendOf_159 _ _ _ _ _ _ _ _ _ _ _ _ _ _) ?_
          refine wp_if (fun c_39 => ?_) (fun c_39 => ?_)
          ·
            have dc_39 := i_le c_39
            refine wp_of (uf_X9_bendOf_172 _ _ _ _ _ _ _ _ _ _ _ _ _) ?_
            refine wp_ifn (by decide) ?_
            exact sf_X9_bendOf_184 hN h_0 h_1 h_2 h_3 h_4 h_5 h_6 h_7 h_8 h_13 h_14
          ·
            have dc_39 := i_nle c_39
            refine wp_of (uf_X9_bendOf_172 _ _ _ _ _ _ _ _ _ _ _ _ _) ?_
            refine wp_ifp (by decide) ?_
            exact sf_X9_bendOf_184 hN h_0 h_1 h_2 h_3 h_4 h_5 h_6 h_7 h_8 h_11 h_12
      ·
        have dc_32 := i_nlt c_32
        exact wp_so1 trivial
    ·
      have dc_26 := i_ne c_26
      exact wp_so1 trivial

theorem uf_X9_bendOf_101 (N : Nat) (x1 : Int32) (x2 : Int32) (x3 : Int32) (x4 : Int32) (x5 : Int32) (x6 : Int32) (x7 : Int32) (x8 : Int32) (s0 : Int32) (s1 : Int32) (s2 : Int32) (v_columnsOf : Int32) (v_limit : List Int32) (v_row : List Int32) (v_column : List Int32) (v_face : List Int32) (v_worn : List Int32) : fX9_bendOf_101 N x1 x2 x3 x4 x5 x6 x7 x8 s0 s1 s2 v_columnsOf v_limit v_row v_column v_face v_worn = mm_bd1 (fX9_placeOf N s2 s1 s0 v_row v_column) (fun (r_14 : Int32) =>
    if x7 = 0 then
    (fX9_bendOf_118 N x1 x2 x3 x4 x5 x6 x8 (1 : Int32) x6 x1 r_14 v_columnsOf v_limit v_row v_column v_face v_worn)
    else (fX9_bendOf_118 N x1 x2 x3 x4 x5 x6 x8 (0 : Int32) x6 x1 r_14 v_columnsOf v_limit v_row v_column v_face v_worn)) := rfl

theorem uf_X9_bendOf_80 (N : Nat) (x1 : Int32) (x2 : Int32) (x3 : Int32) (x4 : Int32) (x5 : Int32) (x6 : Int32) (x7 : Int32) (x8 : Int32) (s0 : Int32) (v_columnsOf : Int32) (v_limit : List Int32) (v_row : List Int32) (v_column : List Int32) (v_face : List Int32) (v_worn : List Int32) : fX9_bendOf_80 N x1 x2 x3 x4 x5 x6 x7 x8 s0 v_columnsOf v_limit v_row v_column v_face v_worn = if s0 = 0 then
    (some ((0 : Int32)))
    else (if x7 = 0 then
    (fX9_bendOf_101 N x1 x2 x3 x4 x5 x6 x7 x8 (1 : Int32) x5 x1 v_columnsOf v_limit v_row v_column v_face v_worn)
    else (fX9_bendOf_101 N x1 x2 x3 x4 x5 x6 x7 x8 (0 : Int32) x5 x1 v_columnsOf v_limit v_row v_column v_face v_worn)) := rfl

set_option maxHeartbeats 4000000 in
set_option maxRecDepth 20000 in
theorem sf_X9_bendOf_80 {N : Nat} (hN : 700 ≤ N) {x1 : Int32} {x2 : Int32} {x3 : Int32} {x4 : Int32} {x5 : Int32} {x6 : Int32} {x7 : Int32} {x8 : Int32} {s0 : Int32} {v_columnsOf : Int32} {v_limit : List Int32} {v_row : List Int32} {v_column : List Int32} {v_face : List Int32} {v_worn : List Int32} (h_0 : 1 ≤ v_columnsOf.toInt) (h_1 : v_columnsOf.toInt ≤ 8) (h_2 : v_limit.length = 1) (h_3 : v_row.length = 192) (h_4 : v_column.length = 192) (h_5 : v_face.length = 192) (h_6 : v_worn.length = 384) (h_7 : 0 ≤ x1.toInt) (h_8 : x1.toInt ≤ 5) (h_9 : 0 ≤ x2.toInt) (h_10 : x2.toInt < 64) (h_11 : 0 ≤ x5.toInt) (h_12 : x5.toInt < 32) (h_13 : 0 ≤ x6.toInt) (h_14 : x6.toInt < 32) : wp (fX9_bendOf_80 N x1 x2 x3 x4 x5 x6 x7 x8 s0 v_columnsOf v_limit v_row v_column v_face v_worn) (fun (r : Int32) => True) := by
  refine wp_of (uf_X9_bendOf_80 _ _ _ _ _ _ _ _ _ _ _ _ _ _ _ _) ?_
  have n_2 : (0 : Int32).toInt = 0 := by decide
  refine wp_if (fun c_1 => ?_) (fun c_1 => ?_)
  ·
    have dc_1 := i_eq c_1
    exact wp_so1 trivial
  ·
    have dc_1 := i_ne c_1
    refine wp_if (fun c_3 => ?_) (fun c_3 => ?_)
    ·
      have dc_3 := i_eq c_3
      refine wp_of (uf_X9_bendOf_101 _ _ _ _ _ _ _ _ _ _ _ _ _ _ _ _ _ _) ?_
      refine wp_in1 ?_
      refine wp_of (uf_X9_placeOf _ _ _ _ _ _) ?_
      refine wp_ifn (by decide) ?_
      have n_4 : (32 : Int32).toInt = 32 := by decide
      generalize hz_z : ((32 : Int32) * x1) = z
      have e_5 := i_mulLE (c := 32) (by decide) hz_z (by omega) (by omega)
      generalize hz_z__6 : (z + x5) = z__6
      have e_7 := i_addE hz_z__6 (by omega) (by omega)
      refine wp_ck (i_inb (by omega) (by omega)) ?_
      refine wp_so1 ?_
      show wp _ _
      refine wp_ifp c_3 ?_
      exact sf_X9_bendOf_118 hN h_0 h_1 h_2 h_3 h_4 h_5 h_6 h_7 h_8 h_9 h_10 h_11 h_12 h_13 h_14 h_13 h_14 h_7 h_8
    ·
      have dc_3 := i_ne c_3
      refine wp_of (uf_X9_bendOf_101 _ _ _ _ _ _ _ _ _ _ _ _ _ _ _ _ _ _) ?_
      refine wp_in1 ?_
      refine wp_of (uf_X9_placeOf _ _ _ _ _ _) ?_
      refine wp_ifp (by decide) ?_
      have n_9 : (32 : Int32).toInt = 32 := by decide
      generalize hz_z__10 : ((32 : Int32) * x1) = z__10
      have e_11 := i_mulLE (c := 32) (by decide) hz_z__10 (by omega) (by omega)
      generalize hz_z__12 : (z__10 + x5) = z__12
      have e_13 := i_addE hz_z__12 (by omega) (by omega)
      refine wp_ck (i_inb (by omega) (by omega)) ?_
      refine wp_so1 ?_
      show wp _ _
      refine wp_ifn c_3 ?_
      exact sf_X9_bendOf_118 hN h_0 h_1 h_2 h_3 h_4 h_5 h_6 h_7 h_8 h_9 h_10 h_11 h_12 h_13 h_14 h_13 h_14 h_7 h_8

theorem uf_X9_bendOf (N : Nat) (x1 : Int32) (x2 : Int32) (x3 : Int32) (x4 : Int32) (v_columnsOf : Int32) (v_limit : List Int32) (v_row : List Int32) (v_column : List Int32) (v_face : List Int32) (v_worn : List Int32) : fX9_bendOf N x1 x2 x3 x4 v_columnsOf v_limit v_row v_column v_face v_worn = mm_ck (mm_nz (2 : Int32)) (mm_nm ((x2 / (2 : Int32))) (fun (y_2 : Int32) =>
    mm_bd1 (fX9_otherOf N x2 v_columnsOf) (fun (r_3 : Int32) =>
    if (4 : Int32) ≤ x4 then
    (fX9_bendOf_23 N x1 x2 x3 x4 y_2 r_3 (0 : Int32) v_columnsOf v_limit v_row v_column v_face v_worn)
    else (fX9_bendOf_23 N x1 x2 x3 x4 y_2 r_3 (1 : Int32) v_columnsOf v_limit v_row v_column v_face v_worn)))) := rfl

theorem uf_X9_bendOf_23 (N : Nat) (x1 : Int32) (x2 : Int32) (x3 : Int32) (x4 : Int32) (x5 : Int32) (x6 : Int32) (s0 : Int32) (v_columnsOf : Int32) (v_limit : List Int32) (v_row : List Int32) (v_column : List Int32) (v_face : List Int32) (v_worn : List Int32) : fX9_bendOf_23 N x1 x2 x3 x4 x5 x6 s0 v_columnsOf v_limit v_row v_column v_face v_worn = mm_bd1 (fX9_placeOf N x1 x5 s0 v_row v_column) (fun (r_6 : Int32) =>
    mm_bd1 (fX9_placeOf N x1 x6 s0 v_row v_column) (fun (r_8 : Int32) =>
    if r_6 = (x3 - (1 : Int32)) then
    (if r_8 = x3 then
    (fX9_bendOf_75 N x1 x2 x3 x4 x5 x6 s0 r_6 v_columnsOf v_limit v_row v_column v_face v_worn)
    else (fX9_bendOf_61 N x1 x2 x3 x4 x5 x6 s0 r_6 r_8 v_columnsOf v_limit v_row v_column v_face v_worn))
    else (fX9_bendOf_61 N x1 x2 x3 x4 x5 x6 s0 r_6 r_8 v_columnsOf v_limit v_row v_column v_face v_worn))) := rfl

theorem uf_X9_bendOf_61 (N : Nat) (x1 : Int32) (x2 : Int32) (x3 : Int32) (x4 : Int32) (x5 : Int32) (x6 : Int32) (x7 : Int32) (x8 : Int32) (x9 : Int32) (v_columnsOf : Int32) (v_limit : List Int32) (v_row : List Int32) (v_column : List Int32) (v_face : List Int32) (v_worn : List Int32) : fX9_bendOf_61 N x1 x2 x3 x4 x5 x6 x7 x8 x9 v_columnsOf v_limit v_row v_column v_face v_worn = if x8 = x3 then
    (if x9 = (x3 - (1 : Int32)) then
    (fX9_bendOf_75 N x1 x2 x3 x4 x5 x6 x7 x8 v_columnsOf v_limit v_row v_column v_face v_worn)
    else (fX9_bendOf_79 N x1 x2 x3 x4 x5 x6 x7 x8 v_columnsOf v_limit v_row v_column v_face v_worn))
    else (fX9_bendOf_79 N x1 x2 x3 x4 x5 x6 x7 x8 v_columnsOf v_limit v_row v_column v_face v_worn) := rfl

theorem uf_X9_bendOf_75 (N : Nat) (x1 : Int32) (x2 : Int32) (x3 : Int32) (x4 : Int32) (x5 : Int32) (x6 : Int32) (x7 : Int32) (x8 : Int32) (v_columnsOf : Int32) (v_limit : List Int32) (v_row : List Int32) (v_column : List Int32) (v_face : List Int32) (v_worn : List Int32) : fX9_bendOf_75 N x1 x2 x3 x4 x5 x6 x7 x8 v_columnsOf v_limit v_row v_column v_face v_worn = fX9_bendOf_80 N x1 x2 x3 x4 x5 x6 x7 x8 (1 : Int32) v_columnsOf v_limit v_row v_column v_face v_worn := rfl

theorem uf_X9_bendOf_79 (N : Nat) (x1 : Int32) (x2 : Int32) (x3 : Int32) (x4 : Int32) (x5 : Int32) (x6 : Int32) (x7 : Int32) (x8 : Int32) (v_columnsOf : Int32) (v_limit : List Int32) (v_row : List Int32) (v_column : List Int32) (v_face : List Int32) (v_worn : List Int32) : fX9_bendOf_79 N x1 x2 x3 x4 x5 x6 x7 x8 v_columnsOf v_limit v_row v_column v_face v_worn = fX9_bendOf_80 N x1 x2 x3 x4 x5 x6 x7 x8 (0 : Int32) v_columnsOf v_limit v_row v_column v_face v_worn := rfl

set_option maxHeartbeats 4000000 in
set_option maxRecDepth 20000 in
theorem sf_X9_bendOf {N : Nat} (hN : 700 ≤ N) {x1 : Int32} {x2 : Int32} {x3 : Int32} {x4 : Int32} {v_columnsOf : Int32} {v_limit : List Int32} {v_row : List Int32} {v_column : List Int32} {v_face : List Int32} {v_worn : List Int32} (h_0 : 1 ≤ v_columnsOf.toInt) (h_1 : v_columnsOf.toInt ≤ 8) (h_2 : v_limit.length = 1) (h_3 : v_row.length = 192) (h_4 : v_column.length = 192) (h_5 : v_face.length = 192) (h_6 : v_worn.length = 384) (h_7 : 0 ≤ x1.toInt) (h_8 : x1.toInt ≤ 5) (h_9 : 0 ≤ x2.toInt) (h_10 : x2.toInt < 64) (h_11 : (x2.toInt % 2 = 0 → x2.toInt / 2 + 1 < 32)) (h_12 : (x2.toInt % 2 = 1 → x2.toInt / 2 + v_columnsOf.toInt < 32)) : wp (fX9_bendOf N x1 x2 x3 x4 v_columnsOf v_limit v_row v_column v_face v_worn) (fun (r : Int32) => True) := by
  refine wp_of (uf_X9_bendOf _ _ _ _ _ _ _ _ _ _ _) ?_
  have n_1 : (2 : Int32).toInt = 2 := by decide
  refine wp_ck (i_nz (by omega)) ?_
  refine wp_nm (fun y_2 h_y_2 => ?_)
  have e_2 := i_divE (c := 2) (by decide) (by decide) h_y_2.symm (by omega)
  refine wp_bd1 (sf_X9_otherOf hN h_0 h_1 h_9 h_10) (fun r_3 ⟨q_3, q_4⟩ => ?_)
  have n_6 : (4 : Int32).toInt = 4 := by decide
  refine wp_if (fun c_5 => ?_) (fun c_5 => ?_)
  ·
    have dc_5 := i_le c_5
    refine wp_of (uf_X9_bendOf_23 _ _ _ _ _ _ _ _ _ _ _ _ _ _) ?_
    refine wp_in1 ?_
    refine wp_of (uf_X9_placeOf _ _ _ _ _ _) ?_
    refine wp_ifp (by decide) ?_
    have n_7 : (32 : Int32).toInt = 32 := by decide
    generalize hz_z : ((32 : Int32) * x1) = z
    have e_8 := i_mulLE (c := 32) (by decide) hz_z (by omega) (by omega)
    generalize hz_z__9 : (z + y_2) = z__9
    have e_10 := i_addE hz_z__9 (by omega) (by omega)
    refine wp_ck (i_inb (by omega) (by omega)) ?_
    refine wp_so1 ?_
    show wp _ _
    refine wp_in1 ?_
    refine wp_of (uf_X9_placeOf _ _ _ _ _ _) ?_
    refine wp_ifp (by decide) ?_
    generalize hz_z__11 : ((32 : Int32) * x1) = z__11
    have e_12 := i_mulLE (c := 32) (by decide) hz_z__11 (by omega) (by omega)
    generalize hz_z__13 : (z__11 + r_3) = z__13
    first | have e_14 := i_addE hz_z__13 (by omega) (by omega) | obtain ⟨k_14, e_14, e1_14, e2_14⟩ := i_addY hz_z__13
    refine wp_ck (i_inb (by omega) (by omega)) ?_
    refine wp_so1 ?_
    show wp _ _
    have n_16 : (1 : Int32).toInt = 1 := by decide
    generalize hz_z__17 : (x3 - (1 : Int32)) = z__17
    first | have e_18 := i_subE hz_z__17 (by omega) (by omega) | obtain ⟨k_18, e_18, e1_18, e2_18⟩ := i_subY hz_z__17
    refine wp_if (fun c_15 => ?_) (fun c_15 => ?_)
    ·
      have dc_15 := i_eq c_15
      refine wp_if (fun c_19 => ?_) (fun c_19 => ?_)
      ·
        have dc_19 := i_eq c_19
        refine wp_of (uf_X9_bendOf_75 _ _ _ _ _ _ _ _ _ _ _ _ _ _ _) ?_
        exact sf_X9_bendOf_80 hN h_0 h_1 h_2 h_3 h_4 h_5 h_6 h_7 h_8 h_9 h_10 (by omega) (by omega) (by omega) (by omega)
      ·
        have dc_19 := i_ne c_19
        refine wp_of (uf_X9_bendOf_61 _ _ _ _ _ _ _ _ _ _ _ _ _ _ _ _) ?_
        refine wp_if (fun c_20 => ?_) (fun c_20 => ?_)
        ·
          have dc_20 := i_eq c_20
          generalize hz_z__22 : (x3 - (1 : Int32)) = z__22
          first | have e_23 := i_subE hz_z__22 (by omega) (by omega) | obtain ⟨k_23, e_23, e1_23, e2_23⟩ := i_subY hz_z__22
          refine wp_if (fun c_21 => ?_) (fun c_21 => ?_)
          ·
            have dc_21 := i_eq c_21
            refine wp_of (uf_X9_bendOf_75 _ _ _ _ _ _ _ _ _ _ _ _ _ _ _) ?_
            exact sf_X9_bendOf_80 hN h_0 h_1 h_2 h_3 h_4 h_5 h_6 h_7 h_8 h_9 h_10 (by omega) (by omega) (by omega) (by omega)
          ·
            have dc_21 := i_ne c_21
            refine wp_of (uf_X9_bendOf_79 _ _ _ _ _ _ _ _ _ _ _ _ _ _ _) ?_
            exact sf_X9_bendOf_80 hN h_0 h_1 h_2 h_3 h_4 h_5 h_6 h_7 h_8 h_9 h_10 (by omega) (by omega) (by omega) (by omega)
        ·
          have dc_20 := i_ne c_20
          refine wp_of (uf_X9_bendOf_79 _ _ _ _ _ _ _ _ _ _ _ _ _ _ _) ?_
          exact sf_X9_bendOf_80 hN h_0 h_1 h_2 h_3 h_4 h_5 h_6 h_7 h_8 h_9 h_10 (by omega) (by omega) (by omega) (by omega)
    ·
      have dc_15 := i_ne c_15
      refine wp_of (uf_X9_bendOf_61 _ _ _ _ _ _ _ _ _ _ _ _ _ _ _ _) ?_
      refine wp_if (fun c_24 => ?_) (fun c_24 => ?_)
      ·
        have dc_24 := i_eq c_24
        generalize hz_z__26 : (x3 - (1 : Int32)) = z__26
        first | have e_27 := i_subE hz_z__26 (by omega) (by omega) | obtain ⟨k_27, e_27, e1_27, e2_27⟩ := i_subY hz_z__26
        refine wp_if (fun c_25 => ?_) (fun c_25 => ?_)
        ·
          have dc_25 := i_eq c_25
          refine wp_of (uf_X9_bendOf_75 _ _ _ _ _ _ _ _ _ _ _ _ _ _ _) ?_
          exact sf_X9_bendOf_80 hN h_0 h_1 h_2 h_3 h_4 h_5 h_6 h_7 h_8 h_9 h_10 (by omega) (by omega) (by omega) (by omega)
        ·
          have dc_25 := i_ne c_25
          refine wp_of (uf_X9_bendOf_79 _ _ _ _ _ _ _ _ _ _ _ _ _ _ _) ?_
          exact sf_X9_bendOf_80 hN h_0 h_1 h_2 h_3 h_4 h_5 h_6 h_7 h_8 h_9 h_10 (by omega) (by omega) (by omega) (by omega)
      ·
        have dc_24 := i_ne c_24
        refine wp_of (uf_X9_bendOf_79 _ _ _ _ _ _ _ _ _ _ _ _ _ _ _) ?_
        exact sf_X9_bendOf_80 hN h_0 h_1 h_2 h_3 h_4 h_5 h_6 h_7 h_8 h_9 h_10 (by omega) (by omega) (by omega) (by omega)
  ·
    have dc_5 := i_nle c_5
    refine wp_of (uf_X9_bendOf_23 _ _ _ _ _ _ _ _ _ _ _ _ _ _) ?_
    refine wp_in1 ?_
    refine wp_of (uf_X9_placeOf _ _ _ _ _ _) ?_
    refine wp_ifn (by decide) ?_
    have n_28 : (32 : Int32).toInt = 32 := by decide
    generalize hz_z__29 : ((32 : Int32) * x1) = z__29
    have e_30 := i_mulLE (c := 32) (by decide) hz_z__29 (by omega) (by omega)
    generalize hz_z__31 : (z__29 + y_2) = z__31
    have e_32 := i_addE hz_z__31 (by omega) (by omega)
    refine wp_ck (i_inb (by omega) (by omega)) ?_
    refine wp_so1 ?_
    show wp _ _
    refine wp_in1 ?_
    refine wp_of (uf_X9_placeOf _ _ _ _ _ _) ?_
    refine wp_ifn (by decide) ?_
    generalize hz_z__33 : ((32 : Int32) * x1) = z__33
    have e_34 := i_mulLE (c := 32) (by decide) hz_z__33 (by omega) (by omega)
    generalize hz_z__35 : (z__33 + r_3) = z__35
    first | have e_36 := i_addE hz_z__35 (by omega) (by omega) | obtain ⟨k_36, e_36, e1_36, e2_36⟩ := i_addY hz_z__35
    refine wp_ck (i_inb (by omega) (by omega)) ?_
    refine wp_so1 ?_
    show wp _ _
    have n_38 : (1 : Int32).toInt = 1 := by decide
    generalize hz_z__39 : (x3 - (1 : Int32)) = z__39
    first | have e_40 := i_subE hz_z__39 (by omega) (by omega) | obtain ⟨k_40, e_40, e1_40, e2_40⟩ := i_subY hz_z__39
    refine wp_if (fun c_37 => ?_) (fun c_37 => ?_)
    ·
      have dc_37 := i_eq c_37
      refine wp_if (fun c_41 => ?_) (fun c_41 => ?_)
      ·
        have dc_41 := i_eq c_41
        refine wp_of (uf_X9_bendOf_75 _ _ _ _ _ _ _ _ _ _ _ _ _ _ _) ?_
        exact sf_X9_bendOf_80 hN h_0 h_1 h_2 h_3 h_4 h_5 h_6 h_7 h_8 h_9 h_10 (by omega) (by omega) (by omega) (by omega)
      ·
        have dc_41 := i_ne c_41
        refine wp_of (uf_X9_bendOf_61 _ _ _ _ _ _ _ _ _ _ _ _ _ _ _ _) ?_
        refine wp_if (fun c_42 => ?_) (fun c_42 => ?_)
        ·
          have dc_42 := i_eq c_42
          generalize hz_z__44 : (x3 - (1 : Int32)) = z__44
          first | have e_45 := i_subE hz_z__44 (by omega) (by omega) | obtain ⟨k_45, e_45, e1_45, e2_45⟩ := i_subY hz_z__44
          refine wp_if (fun c_43 => ?_) (fun c_43 => ?_)
          ·
            have dc_43 := i_eq c_43
            refine wp_of (uf_X9_bendOf_75 _ _ _ _ _ _ _ _ _ _ _ _ _ _ _) ?_
            exact sf_X9_bendOf_80 hN h_0 h_1 h_2 h_3 h_4 h_5 h_6 h_7 h_8 h_9 h_10 (by omega) (by omega) (by omega) (by omega)
          ·
            have dc_43 := i_ne c_43
            refine wp_of (uf_X9_bendOf_79 _ _ _ _ _ _ _ _ _ _ _ _ _ _ _) ?_
            exact sf_X9_bendOf_80 hN h_0 h_1 h_2 h_3 h_4 h_5 h_6 h_7 h_8 h_9 h_10 (by omega) (by omega) (by omega) (by omega)
        ·
          have dc_42 := i_ne c_42
          refine wp_of (uf_X9_bendOf_79 _ _ _ _ _ _ _ _ _ _ _ _ _ _ _) ?_
          exact sf_X9_bendOf_80 hN h_0 h_1 h_2 h_3 h_4 h_5 h_6 h_7 h_8 h_9 h_10 (by omega) (by omega) (by omega) (by omega)
    ·
      have dc_37 := i_ne c_37
      refine wp_of (uf_X9_bendOf_61 _ _ _ _ _ _ _ _ _ _ _ _ _ _ _ _) ?_
      refine wp_if (fun c_46 => ?_) (fun c_46 => ?_)
      ·
        have dc_46 := i_eq c_46
        generalize hz_z__48 : (x3 - (1 : Int32)) = z__48
        first | have e_49 := i_subE hz_z__48 (by omega) (by omega) | obtain ⟨k_49, e_49, e1_49, e2_49⟩ := i_subY hz_z__48
        refine wp_if (fun c_47 => ?_) (fun c_47 => ?_)
        ·
          have dc_47 := i_eq c_47
          refine wp_of (uf_X9_bendOf_75 _ _ _ _ _ _ _ _ _ _ _ _ _ _ _) ?_
          exact sf_X9_bendOf_80 hN h_0 h_1 h_2 h_3 h_4 h_5 h_6 h_7 h_8 h_9 h_10 (by omega) (by omega) (by omega) (by omega)
        ·
          have dc_47 := i_ne c_47
          refine wp_of (uf_X9_bendOf_79 _ _ _ _ _ _ _ _ _ _ _ _ _ _ _) ?_
          exact sf_X9_bendOf_80 hN h_0 h_1 h_2 h_3 h_4 h_5 h_6 h_7 h_8 h_9 h_10 (by omega) (by omega) (by omega) (by omega)
      ·
        have dc_46 := i_ne c_46
        refine wp_of (uf_X9_bendOf_79 _ _ _ _ _ _ _ _ _ _ _ _ _ _ _) ?_
        exact sf_X9_bendOf_80 hN h_0 h_1 h_2 h_3 h_4 h_5 h_6 h_7 h_8 h_9 h_10 (by omega) (by omega) (by omega) (by omega)

theorem uf_X9_bendsAll_147 (N : Nat) (k_87 : Int32 → Int32 → Int32 → Int32 → Int32 → Int32 → Int32 → Int32 → Int32 → Int32 → Int32 → Int32 → Int32 → List Int32 → List Int32 → List Int32 → List Int32 → List Int32 → List Int32 → List Int32 → List Int32 → List Int32 → List Int32 → Option (Int32 × Int32 × Int32 × Int32 × Int32 × Int32 × Int32 × Int32 × List Int32 × List Int32 × List Int32 × List Int32)) (x1 : Int32) (x4 : Int32) (x5 : Int32) (v_rowsOf : Int32) (v_columnsOf : Int32) (v_textMany : Int32) (v_base : Int32) (v_at : Int32) (v_ends : Int32) (v_fault : Int32) (v_opened : Int32) (v_bentMany : Int32) (v_bentWrong : Int32) (v_moreWorn : Int32) (v_limit : List Int32) (v_row : List Int32) (v_column : List Int32) (v_face : List Int32) (v_worn : List Int32) (v_lastBend : List Int32) (v_tape : List Int32) (v_text : List Int32) (v_names : List Int32) (v_bends : List Int32) : fX9_bendsAll_147 N k_87 x1 x4 x5 v_rowsOf v_columnsOf v_textMany v_base v_at v_ends v_fault v_opened v_bentMany v_bentWrong v_moreWorn v_limit v_row v_column v_face v_worn v_lastBend v_tape v_text v_names v_bends = fX9_bendsAll_148 N k_87 x1 x4 x5 (0 : Int32) v_rowsOf v_columnsOf v_textMany v_base v_at v_ends v_fault v_opened v_bentMany v_bentWrong v_moreWorn v_limit v_row v_column v_face v_worn v_lastBend v_tape v_text v_names v_bends := rfl

theorem uf_X9_bendsAll_148 (N : Nat) (k_87 : Int32 → Int32 → Int32 → Int32 → Int32 → Int32 → Int32 → Int32 → Int32 → Int32 → Int32 → Int32 → Int32 → List Int32 → List Int32 → List Int32 → List Int32 → List Int32 → List Int32 → List Int32 → List Int32 → List Int32 → List Int32 → Option (Int32 × Int32 × Int32 × Int32 × Int32 × Int32 × Int32 × Int32 × List Int32 × List Int32 × List Int32 × List Int32)) (x1 : Int32) (x4 : Int32) (x5 : Int32) (s0 : Int32) (v_rowsOf : Int32) (v_columnsOf : Int32) (v_textMany : Int32) (v_base : Int32) (v_at : Int32) (v_ends : Int32) (v_fault : Int32) (v_opened : Int32) (v_bentMany : Int32) (v_bentWrong : Int32) (v_moreWorn : Int32) (v_limit : List Int32) (v_row : List Int32) (v_column : List Int32) (v_face : List Int32) (v_worn : List Int32) (v_lastBend : List Int32) (v_tape : List Int32) (v_text : List Int32) (v_names : List Int32) (v_bends : List Int32) : fX9_bendsAll_148 N k_87 x1 x4 x5 s0 v_rowsOf v_columnsOf v_textMany v_base v_at v_ends v_fault v_opened v_bentMany v_bentWrong v_moreWorn v_limit v_row v_column v_face v_worn v_lastBend v_tape v_text v_names v_bends = mm_ck (mm_inb x5 v_worn.length) (mm_nm ((mm_ig v_worn x5)) (fun (y_24 : Int32) =>
    mm_ck (mm_inb x4 v_bends.length) (mm_bd7 (fX9_wears N v_bentMany y_24 s0 x4 (mm_ig v_bends x4) v_textMany v_base v_at v_ends v_fault v_opened v_tape v_text v_names) (fun (r_26 : Int32) (w_27 : Int32) (w_28 : Int32) (w_29 : Int32) (w_30 : Int32) (w_31 : Int32) (w_32 : List Int32) =>
    mm_nm ((y_24 + r_26)) (fun (y_34 : Int32) =>
    if y_34 ≤ (99 : Int32) then
    (fX9_bendsAll_205 N k_87 x1 x4 x5 s0 y_24 y_34 x5 v_rowsOf v_columnsOf v_textMany w_27 w_28 w_29 w_30 w_31 v_bentMany v_bentWrong v_moreWorn v_limit v_row v_column v_face v_worn v_lastBend v_tape v_text w_32 v_bends)
    else (fX9_bendsAll_205 N k_87 x1 x4 x5 s0 y_24 (99 : Int32) x5 v_rowsOf v_columnsOf v_textMany w_27 w_28 w_29 w_30 w_31 v_bentMany v_bentWrong v_moreWorn v_limit v_row v_column v_face v_worn v_lastBend v_tape v_text w_32 v_bends)))))) := rfl

theorem uf_X9_bendsAll_205 (N : Nat) (k_87 : Int32 → Int32 → Int32 → Int32 → Int32 → Int32 → Int32 → Int32 → Int32 → Int32 → Int32 → Int32 → Int32 → List Int32 → List Int32 → List Int32 → List Int32 → List Int32 → List Int32 → List Int32 → List Int32 → List Int32 → List Int32 → Option (Int32 × Int32 × Int32 × Int32 × Int32 × Int32 × Int32 × Int32 × List Int32 × List Int32 × List Int32 × List Int32)) (x1 : Int32) (x4 : Int32) (x5 : Int32) (x6 : Int32) (x7 : Int32) (s0 : Int32) (s1 : Int32) (v_rowsOf : Int32) (v_columnsOf : Int32) (v_textMany : Int32) (v_base : Int32) (v_at : Int32) (v_ends : Int32) (v_fault : Int32) (v_opened : Int32) (v_bentMany : Int32) (v_bentWrong : Int32) (v_moreWorn : Int32) (v_limit : List Int32) (v_row : List Int32) (v_column : List Int32) (v_face : List Int32) (v_worn : List Int32) (v_lastBend : List Int32) (v_tape : List Int32) (v_text : List Int32) (v_names : List Int32) (v_bends : List Int32) : fX9_bendsAll_205 N k_87 x1 x4 x5 x6 x7 s0 s1 v_rowsOf v_columnsOf v_textMany v_base v_at v_ends v_fault v_opened v_bentMany v_bentWrong v_moreWorn v_limit v_row v_column v_face v_worn v_lastBend v_tape v_text v_names v_bends = mm_ck (mm_inb s1 v_worn.length) (mm_nm (mm_is v_worn s1 s0) (fun (l_37 : List Int32) =>
    mm_ck (mm_inb x4 v_bends.length) (mm_nm ((mm_ig v_bends x4)) (fun (y_39 : Int32) =>
    mm_ck (mm_inb x5 v_lastBend.length) (mm_nm (mm_is v_lastBend x5 y_39) (fun (l_41 : List Int32) =>
    mm_nm ((v_bentWrong + x6)) (fun (y_42 : Int32) =>
    mm_ck (mm_inb x5 l_37.length) (mm_nm ((v_moreWorn + ((mm_ig l_37 x5) - x7))) (fun (y_44 : Int32) =>
    fX9_bendsAll_250 N k_87 x1 x4 v_rowsOf v_columnsOf v_textMany v_base v_at v_ends v_fault v_opened v_bentMany y_42 y_44 v_limit v_row v_column v_face l_37 l_41 v_tape v_text v_names v_bends))))))))) := rfl

theorem uf_X9_bendsAll_250 (N : Nat) (k_87 : Int32 → Int32 → Int32 → Int32 → Int32 → Int32 → Int32 → Int32 → Int32 → Int32 → Int32 → Int32 → Int32 → List Int32 → List Int32 → List Int32 → List Int32 → List Int32 → List Int32 → List Int32 → List Int32 → List Int32 → List Int32 → Option (Int32 × Int32 × Int32 × Int32 × Int32 × Int32 × Int32 × Int32 × List Int32 × List Int32 × List Int32 × List Int32)) (x1 : Int32) (x4 : Int32) (v_rowsOf : Int32) (v_columnsOf : Int32) (v_textMany : Int32) (v_base : Int32) (v_at : Int32) (v_ends : Int32) (v_fault : Int32) (v_opened : Int32) (v_bentMany : Int32) (v_bentWrong : Int32) (v_moreWorn : Int32) (v_limit : List Int32) (v_row : List Int32) (v_column : List Int32) (v_face : List Int32) (v_worn : List Int32) (v_lastBend : List Int32) (v_tape : List Int32) (v_text : List Int32) (v_names : List Int32) (v_bends : List Int32) : fX9_bendsAll_250 N k_87 x1 x4 v_rowsOf v_columnsOf v_textMany v_base v_at v_ends v_fault v_opened v_bentMany v_bentWrong v_moreWorn v_limit v_row v_column v_face v_worn v_lastBend v_tape v_text v_names v_bends = mm_nm (x4 + (1 : Int32)) (fun (y_22 : Int32) =>
    k_87 x1 y_22 v_rowsOf v_columnsOf v_textMany v_base v_at v_ends v_fault v_opened v_bentMany v_bentWrong v_moreWorn v_limit v_row v_column v_face v_worn v_lastBend v_tape v_text v_names v_bends) := rfl

theorem uf_X9_bendsAll_87 (N : Nat) (n : Nat) (x1 : Int32) (x4 : Int32) (v_rowsOf : Int32) (v_columnsOf : Int32) (v_textMany : Int32) (v_base : Int32) (v_at : Int32) (v_ends : Int32) (v_fault : Int32) (v_opened : Int32) (v_bentMany : Int32) (v_bentWrong : Int32) (v_moreWorn : Int32) (v_limit : List Int32) (v_row : List Int32) (v_column : List Int32) (v_face : List Int32) (v_worn : List Int32) (v_lastBend : List Int32) (v_tape : List Int32) (v_text : List Int32) (v_names : List Int32) (v_bends : List Int32) : fX9_bendsAll_87 N (n + 1) x1 x4 v_rowsOf v_columnsOf v_textMany v_base v_at v_ends v_fault v_opened v_bentMany v_bentWrong v_moreWorn v_limit v_row v_column v_face v_worn v_lastBend v_tape v_text v_names v_bends = 
    if (64 : Int32) ≤ x4 then
    (some (v_base, v_at, v_ends, v_fault, v_opened, v_bentMany, v_bentWrong, v_moreWorn, v_worn, v_lastBend, v_names, v_bends))
    else (mm_ck (mm_inb x4 v_bends.length) (if (mm_ig v_bends x4) = 0 then
    (fX9_bendsAll_250 N (fX9_bendsAll_87 N n) x1 x4 v_rowsOf v_columnsOf v_textMany v_base v_at v_ends v_fault v_opened v_bentMany v_bentWrong v_moreWorn v_limit v_row v_column v_face v_worn v_lastBend v_tape v_text v_names v_bends)
    else (mm_nm ((((64 : Int32) * x1) + x4)) (fun (y_16 : Int32) =>
    mm_ck (mm_inb y_16 v_lastBend.length) (if (mm_ig v_lastBend y_16) = 0 then
    (fX9_bendsAll_147 N (fX9_bendsAll_87 N n) x1 x4 y_16 v_rowsOf v_columnsOf v_textMany v_base v_at v_ends v_fault v_opened v_bentMany v_bentWrong v_moreWorn v_limit v_row v_column v_face v_worn v_lastBend v_tape v_text v_names v_bends)
    else (mm_ck (mm_inb y_16 v_lastBend.length) (mm_ck (mm_inb x4 v_bends.length) (if (mm_ig v_lastBend y_16) = (mm_ig v_bends x4) then
    (fX9_bendsAll_147 N (fX9_bendsAll_87 N n) x1 x4 y_16 v_rowsOf v_columnsOf v_textMany v_base v_at v_ends v_fault v_opened v_bentMany v_bentWrong v_moreWorn v_limit v_row v_column v_face v_worn v_lastBend v_tape v_text v_names v_bends)
    else (fX9_bendsAll_148 N (fX9_bendsAll_87 N n) x1 x4 y_16 (1 : Int32) v_rowsOf v_columnsOf v_textMany v_base v_at v_ends v_fault v_opened v_bentMany v_bentWrong v_moreWorn v_limit v_row v_column v_face v_worn v_lastBend v_tape v_text v_names v_bends))))))))) := rfl

set_option maxHeartbeats 4000000 in
set_option maxRecDepth 20000 in
theorem sf_X9_bendsAll_87 {N : Nat} (hN : 700 ≤ N)  : ∀ (n : Nat) (x1 : Int32) (x4 : Int32) (v_rowsOf : Int32) (v_columnsOf : Int32) (v_textMany : Int32) (v_base : Int32) (v_at : Int32) (v_ends : Int32) (v_fault : Int32) (v_opened : Int32) (v_bentMany : Int32) (v_bentWrong : Int32) (v_moreWorn : Int32) (v_limit : List Int32) (v_row : List Int32) (v_column : List Int32) (v_face : List Int32) (v_worn : List Int32) (v_lastBend : List Int32) (v_tape : List Int32) (v_text : List Int32) (v_names : List Int32) (v_bends : List Int32), 1 ≤ v_rowsOf.toInt → v_rowsOf.toInt ≤ 4 → 1 ≤ v_columnsOf.toInt → v_columnsOf.toInt ≤ 8 → -1 ≤ v_textMany.toInt → v_textMany.toInt ≤ 120 → v_limit.length = 1 → v_row.length = 192 → v_column.length = 192 → v_face.length = 192 → v_worn.length = 384 → v_lastBend.length = 384 → v_tape.length = 120 → v_text.length = 120 → v_names.length = 6 → v_bends.length = 64 → 0 ≤ x1.toInt → x1.toInt ≤ 5 → 0 ≤ x4.toInt → x4.toInt ≤ 64 → (64 - x4.toInt).toNat < n → wp (fX9_bendsAll_87 N n x1 x4 v_rowsOf v_columnsOf v_textMany v_base v_at v_ends v_fault v_opened v_bentMany v_bentWrong v_moreWorn v_limit v_row v_column v_face v_worn v_lastBend v_tape v_text v_names v_bends) (cu12 (fun (wv_base : Int32) (wv_at : Int32) (wv_ends : Int32) (wv_fault : Int32) (wv_opened : Int32) (wv_bentMany : Int32) (wv_bentWrong : Int32) (wv_moreWorn : Int32) (wv_worn : List Int32) (wv_lastBend : List Int32) (wv_names : List Int32) (wv_bends : List Int32) => wv_worn.length = 384 ∧ wv_lastBend.length = 384 ∧ wv_names.length = 6 ∧ wv_bends.length = 64)) := by
  intro n
  induction n with
  | zero =>
    intro x1 x4 v_rowsOf v_columnsOf v_textMany v_base v_at v_ends v_fault v_opened v_bentMany v_bentWrong v_moreWorn v_limit v_row v_column v_face v_worn v_lastBend v_tape v_text v_names v_bends h_0 h_1 h_2 h_3 h_4 h_5 h_6 h_7 h_8 h_9 h_10 h_11 h_12 h_13 h_14 h_15 h_16 h_17 h_18 h_19 hm
    exact absurd hm (by omega)
  | succ n ih =>
    intro x1 x4 v_rowsOf v_columnsOf v_textMany v_base v_at v_ends v_fault v_opened v_bentMany v_bentWrong v_moreWorn v_limit v_row v_column v_face v_worn v_lastBend v_tape v_text v_names v_bends h_0 h_1 h_2 h_3 h_4 h_5 h_6 h_7 h_8 h_9 h_10 h_11 h_12 h_13 h_14 h_15 h_16 h_17 h_18 h_19 hm
    refine wp_of (uf_X9_bendsAll_87 _ _ _ _ _ _ _ _ _ _ _ _ _ _ _ _ _ _ _ _ _ _ _ _ _) ?_
    have n_2 : (64 : Int32).toInt = 64 := by decide
    refine wp_if (fun c_1 => ?_) (fun c_1 => ?_)
    ·
      have dc_1 := i_le c_1
      exact wp_so12 ⟨h_10, h_11, h_14, h_15⟩
    ·
      have dc_1 := i_nle c_1
      refine wp_ck (i_inb (by omega) (by omega)) ?_
      have n_4 : (0 : Int32).toInt = 0 := by decide
      refine wp_if (fun c_3 => ?_) (fun c_3 => ?_)
      ·
        have dc_3 := i_eq c_3
        refine wp_of (uf_X9_bendsAll_250 _ _ _ _ _ _ _ _ _ _ _ _ _ _ _ _ _ _ _ _ _ _ _ _ _) ?_
        have n_5 : (1 : Int32).toInt = 1 := by decide
        refine wp_nm (fun y_22 h_y_22 => ?_)
        have e_6 := i_addE h_y_22.symm (by omega) (by omega)
        exact ih _ _ _ _ _ _ _ _ _ _ _ _ _ _ _ _ _ _ _ _ _ _ _ h_0 h_1 h_2 h_3 h_4 h_5 h_6 h_7 h_8 h_9 h_10 h_11 h_12 h_13 h_14 h_15 h_16 h_17 (by omega) (by omega) (by omega)
      ·
        have dc_3 := i_ne c_3
        generalize hz_z : ((64 : Int32) * x1) = z
        have e_7 := i_mulLE (c := 64) (by decide) hz_z (by omega) (by omega)
        refine wp_nm (fun y_16 h_y_16 => ?_)
        have e_8 := i_addE h_y_16.symm (by omega) (by omega)
        refine wp_ck (i_inb (by omega) (by omega)) ?_
        refine wp_if (fun c_9 => ?_) (fun c_9 => ?_)
        ·
          have dc_9 := i_eq c_9
          refine wp_of (uf_X9_bendsAll_147 _ _ _ _ _ _ _ _ _ _ _ _ _ _ _ _ _ _ _ _ _ _ _ _ _ _) ?_
          refine wp_of (uf_X9_bendsAll_148 _ _ _ _ _ _ _ _ _ _ _ _ _ _ _ _ _ _ _ _ _ _ _ _ _ _ _) ?_
          refine wp_ck (i_inb (by omega) (by omega)) ?_
          refine wp_nm (fun y_24 h_y_24 => ?_)
          have t_y_24 : y_24.toInt = ((mm_ig v_worn y_16)).toInt := by rw [h_y_24]
          refine wp_ck (i_inb (by omega) (by omega)) ?_
          refine wp_bd7 (sf_X9_wears hN h_4 h_5 h_12 h_13 h_14) (fun r_26 w_27 w_28 w_29 w_30 w_31 w_32 q_10 => ?_)
          refine wp_nm (fun y_34 _ => ?_)
          have n_12 : (99 : Int32).toInt = 99 := by decide
          refine wp_if (fun c_11 => ?_) (fun c_11 => ?_)
          ·
            have dc_11 := i_le c_11
            refine wp_of (uf_X9_bendsAll_205 _ _ _ _ _ _ _ _ _ _ _ _ _ _ _ _ _ _ _ _ _ _ _ _ _ _ _ _ _ _) ?_
            refine wp_ck (i_inb (by omega) (by omega)) ?_
            refine wp_nm (fun l_37 h_l_37 => ?_)
            have nl_l_37 : l_37.length = 384 := by rw [h_l_37, is_len]; assumption
            refine wp_ck (i_inb (by omega) (by omega)) ?_
            refine wp_nm (fun y_39 h_y_39 => ?_)
            have t_y_39 : y_39.toInt = ((mm_ig v_bends x4)).toInt := by rw [h_y_39]
            refine wp_ck (i_inb (by omega) (by omega)) ?_
            refine wp_nm (fun l_41 h_l_41 => ?_)
            have nl_l_41 : l_41.length = 384 := by rw [h_l_41, is_len]; assumption
            refine wp_nm (fun y_42 _ => ?_)
            refine wp_ck (i_inb (by omega) (by omega)) ?_
            refine wp_nm (fun y_44 _ => ?_)
            refine wp_of (uf_X9_bendsAll_250 _ _ _ _ _ _ _ _ _ _ _ _ _ _ _ _ _ _ _ _ _ _ _ _ _) ?_
            have n_14 : (1 : Int32).toInt = 1 := by decide
            refine wp_nm (fun y_22__13 h_y_22__13 => ?_)
            have e_15 := i_addE h_y_22__13.symm (by omega) (by omega)
            exact ih _ _ _ _ _ _ _ _ _ _ _ _ _ _ _ _ _ _ _ _ _ _ _ h_0 h_1 h_2 h_3 h_4 h_5 h_6 h_7 h_8 h_9 nl_l_37 nl_l_41 h_12 h_13 q_10 h_15 h_16 h_17 (by omega) (by omega) (by omega)
          ·
            have dc_11 := i_nle c_11
            refine wp_of (uf_X9_bendsAll_205 _ _ _ _ _ _ _ _ _ _ _ _ _ _ _ _ _ _ _ _ _ _ _ _ _ _ _ _ _ _) ?_
            refine wp_ck (i_inb (by omega) (by omega)) ?_
            refine wp_nm (fun l_37__16 h_l_37__16 => ?_)
            have nl_l_37__16 : l_37__16.length = 384 := by rw [h_l_37__16, is_len]; assumption
            refine wp_ck (i_inb (by omega) (by omega)) ?_
            refine wp_nm (fun y_39__17 h_y_39__17 => ?_)
            have t_y_39__17 : y_39__17.toInt = ((mm_ig v_bends x4)).toInt := by rw [h_y_39__17]
            refine wp_ck (i_inb (by omega) (by omega)) ?_
            refine wp_nm (fun l_41__18 h_l_41__18 => ?_)
            have nl_l_41__18 : l_41__18.length = 384 := by rw [h_l_41__18, is_len]; assumption
            refine wp_nm (fun y_42__19 _ => ?_)
            refine wp_ck (i_inb (by omega) (by omega)) ?_
            refine wp_nm (fun y_44__20 _ => ?_)
            refine wp_of (uf_X9_bendsAll_250 _ _ _ _ _ _ _ _ _ _ _ _ _ _ _ _ _ _ _ _ _ _ _ _ _) ?_
            have n_22 : (1 : Int32).toInt = 1 := by decide
            refine wp_nm (fun y_22__21 h_y_22__21 => ?_)
            have e_23 := i_addE h_y_22__21.symm (by omega) (by omega)
            exact ih _ _ _ _ _ _ _ _ _ _ _ _ _ _ _ _ _ _ _ _ _ _ _ h_0 h_1 h_2 h_3 h_4 h_5 h_6 h_7 h_8 h_9 nl_l_37__16 nl_l_41__18 h_12 h_13 q_10 h_15 h_16 h_17 (by omega) (by omega) (by omega)
        ·
          have dc_9 := i_ne c_9
          refine wp_ck (i_inb (by omega) (by omega)) ?_
          refine wp_ck (i_inb (by omega) (by omega)) ?_
          refine wp_if (fun c_24 => ?_) (fun c_24 => ?_)
          ·
            have dc_24 := i_eq c_24
            refine wp_of (uf_X9_bendsAll_147 _ _ _ _ _ _ _ _ _ _ _ _ _ _ _ _ _ _ _ _ _ _ _ _ _ _) ?_
            refine wp_of (uf_X9_bendsAll_148 _ _ _ _ _ _ _ _ _ _ _ _ _ _ _ _ _ _ _ _ _ _ _ _ _ _ _) ?_
            refine wp_ck (i_inb (by omega) (by omega)) ?_
            refine wp_nm (fun y_24__25 h_y_24__25 => ?_)
            have t_y_24__25 : y_24__25.toInt = ((mm_ig v_worn y_16)).toInt := by rw [h_y_24__25]
            refine wp_ck (i_inb (by omega) (by omega)) ?_
            refine wp_bd7 (sf_X9_wears hN h_4 h_5 h_12 h_13 h_14) (fun r_26__26 w_27__27 w_28__28 w_29__29 w_30__30 w_31__31 w_32__32 q_33 => ?_)
            refine wp_nm (fun y_34__34 _ => ?_)
            have n_36 : (99 : Int32).toInt = 99 := by decide
            refine wp_if (fun c_35 => ?_) (fun c_35 => ?_)
            ·
              have dc_35 := i_le c_35
              refine wp_of (uf_X9_bendsAll_205 _ _ _ _ _ _ _ _ _ _ _ _ _ _ _ _ _ _ _ _ _ _ _ _ _ _ _ _ _ _) ?_
              refine wp_ck (i_inb (by omega) (by omega)) ?_
              refine wp_nm (fun l_37__37 h_l_37__37 => ?_)
              have nl_l_37__37 : l_37__37.length = 384 := by rw [h_l_37__37, is_len]; assumption
              refine wp_ck (i_inb (by omega) (by omega)) ?_
              refine wp_nm (fun y_39__38 h_y_39__38 => ?_)
              have t_y_39__38 : y_39__38.toInt = ((mm_ig v_bends x4)).toInt := by rw [h_y_39__38]
              refine wp_ck (i_inb (by omega) (by omega)) ?_
              refine wp_nm (fun l_41__39 h_l_41__39 => ?_)
              have nl_l_41__39 : l_41__39.length = 384 := by rw [h_l_41__39, is_len]; assumption
              refine wp_nm (fun y_42__40 _ => ?_)
              refine wp_ck (i_inb (by omega) (by omega)) ?_
              refine wp_nm (fun y_44__41 _ => ?_)
              refine wp_of (uf_X9_bendsAll_250 _ _ _ _ _ _ _ _ _ _ _ _ _ _ _ _ _ _ _ _ _ _ _ _ _) ?_
              have n_43 : (1 : Int32).toInt = 1 := by decide
              refine wp_nm (fun y_22__42 h_y_22__42 => ?_)
              have e_44 := i_addE h_y_22__42.symm (by omega) (by omega)
              exact ih _ _ _ _ _ _ _ _ _ _ _ _ _ _ _ _ _ _ _ _ _ _ _ h_0 h_1 h_2 h_3 h_4 h_5 h_6 h_7 h_8 h_9 nl_l_37__37 nl_l_41__39 h_12 h_13 q_33 h_15 h_16 h_17 (by omega) (by omega) (by omega)
            ·
              have dc_35 := i_nle c_35
              refine wp_of (uf_X9_bendsAll_205 _ _ _ _ _ _ _ _ _ _ _ _ _ _ _ _ _ _ _ _ _ _ _ _ _ _ _ _ _ _) ?_
              refine wp_ck (i_inb (by omega) (by omega)) ?_
              refine wp_nm (fun l_37__45 h_l_37__45 => ?_)
              have nl_l_37__45 : l_37__45.length = 384 := by rw [h_l_37__45, is_len]; assumption
              refine wp_ck (i_inb (by omega) (by omega)) ?_
              refine wp_nm (fun y_39__46 h_y_39__46 => ?_)
              have t_y_39__46 : y_39__46.toInt = ((mm_ig v_bends x4)).toInt := by rw [h_y_39__46]
              refine wp_ck (i_inb (by omega) (by omega)) ?_
              refine wp_nm (fun l_41__47 h_l_41__47 => ?_)
              have nl_l_41__47 : l_41__47.length = 384 := by rw [h_l_41__47, is_len]; assumption
              refine wp_nm (fun y_42__48 _ => ?_)
              refine wp_ck (i_inb (by omega) (by omega)) ?_
              refine wp_nm (fun y_44__49 _ => ?_)
              refine wp_of (uf_X9_bendsAll_250 _ _ _ _ _ _ _ _ _ _ _ _ _ _ _ _ _ _ _ _ _ _ _ _ _) ?_
              have n_51 : (1 : Int32).toInt = 1 := by decide
              refine wp_nm (fun y_22__50 h_y_22__50 => ?_)
              have e_52 := i_addE h_y_22__50.symm (by omega) (by omega)
              exact ih _ _ _ _ _ _ _ _ _ _ _ _ _ _ _ _ _ _ _ _ _ _ _ h_0 h_1 h_2 h_3 h_4 h_5 h_6 h_7 h_8 h_9 nl_l_37__45 nl_l_41__47 h_12 h_13 q_33 h_15 h_16 h_17 (by omega) (by omega) (by omega)
          ·
            have dc_24 := i_ne c_24
            refine wp_of (uf_X9_bendsAll_148 _ _ _ _ _ _ _ _ _ _ _ _ _ _ _ _ _ _ _ _ _ _ _ _ _ _ _) ?_
            refine wp_ck (i_inb (by omega) (by omega)) ?_
            refine wp_nm (fun y_24__53 h_y_24__53 => ?_)
            have t_y_24__53 : y_24__53.toInt = ((mm_ig v_worn y_16)).toInt := by rw [h_y_24__53]
            refine wp_ck (i_inb (by omega) (by omega)) ?_
            refine wp_bd7 (sf_X9_wears hN h_4 h_5 h_12 h_13 h_14) (fun r_26__54 w_27__55 w_28__56 w_29__57 w_30__58 w_31__59 w_32__60 q_61 => ?_)
            refine wp_nm (fun y_34__62 _ => ?_)
            have n_64 : (99 : Int32).toInt = 99 := by decide
            refine wp_if (fun c_63 => ?_) (fun c_63 => ?_)
            ·
              have dc_63 := i_le c_63
              refine wp_of (uf_X9_bendsAll_205 _ _ _ _ _ _ _ _ _ _ _ _ _ _ _ _ _ _ _ _ _ _ _ _ _ _ _ _ _ _) ?_
              refine wp_ck (i_inb (by omega) (by omega)) ?_
              refine wp_nm (fun l_37__65 h_l_37__65 => ?_)
              have nl_l_37__65 : l_37__65.length = 384 := by rw [h_l_37__65, is_len]; assumption
              refine wp_ck (i_inb (by omega) (by omega)) ?_
              refine wp_nm (fun y_39__66 h_y_39__66 => ?_)
              have t_y_39__66 : y_39__66.toInt = ((mm_ig v_bends x4)).toInt := by rw [h_y_39__66]
              refine wp_ck (i_inb (by omega) (by omega)) ?_
              refine wp_nm (fun l_41__67 h_l_41__67 => ?_)
              have nl_l_41__67 : l_41__67.length = 384 := by rw [h_l_41__67, is_len]; assumption
              refine wp_nm (fun y_42__68 _ => ?_)
              refine wp_ck (i_inb (by omega) (by omega)) ?_
              refine wp_nm (fun y_44__69 _ => ?_)
              refine wp_of (uf_X9_bendsAll_250 _ _ _ _ _ _ _ _ _ _ _ _ _ _ _ _ _ _ _ _ _ _ _ _ _) ?_
              have n_71 : (1 : Int32).toInt = 1 := by decide
              refine wp_nm (fun y_22__70 h_y_22__70 => ?_)
              have e_72 := i_addE h_y_22__70.symm (by omega) (by omega)
              exact ih _ _ _ _ _ _ _ _ _ _ _ _ _ _ _ _ _ _ _ _ _ _ _ h_0 h_1 h_2 h_3 h_4 h_5 h_6 h_7 h_8 h_9 nl_l_37__65 nl_l_41__67 h_12 h_13 q_61 h_15 h_16 h_17 (by omega) (by omega) (by omega)
            ·
              have dc_63 := i_nle c_63
              refine wp_of (uf_X9_bendsAll_205 _ _ _ _ _ _ _ _ _ _ _ _ _ _ _ _ _ _ _ _ _ _ _ _ _ _ _ _ _ _) ?_
              refine wp_ck (i_inb (by omega) (by omega)) ?_
              refine wp_nm (fun l_37__73 h_l_37__73 => ?_)
              have nl_l_37__73 : l_37__73.length = 384 := by rw [h_l_37__73, is_len]; assumption
              refine wp_ck (i_inb (by omega) (by omega)) ?_
              refine wp_nm (fun y_39__74 h_y_39__74 => ?_)
              have t_y_39__74 : y_39__74.toInt = ((mm_ig v_bends x4)).toInt := by rw [h_y_39__74]
              refine wp_ck (i_inb (by omega) (by omega)) ?_
              refine wp_nm (fun l_41__75 h_l_41__75 => ?_)
              have nl_l_41__75 : l_41__75.length = 384 := by rw [h_l_41__75, is_len]; assumption
              refine wp_nm (fun y_42__76 _ => ?_)
              refine wp_ck (i_inb (by omega) (by omega)) ?_
              refine wp_nm (fun y_44__77 _ => ?_)
              refine wp_of (uf_X9_bendsAll_250 _ _ _ _ _ _ _ _ _ _ _ _ _ _ _ _ _ _ _ _ _ _ _ _ _) ?_
              have n_79 : (1 : Int32).toInt = 1 := by decide
              refine wp_nm (fun y_22__78 h_y_22__78 => ?_)
              have e_80 := i_addE h_y_22__78.symm (by omega) (by omega)
              exact ih _ _ _ _ _ _ _ _ _ _ _ _ _ _ _ _ _ _ _ _ _ _ _ h_0 h_1 h_2 h_3 h_4 h_5 h_6 h_7 h_8 h_9 nl_l_37__73 nl_l_41__75 h_12 h_13 q_61 h_15 h_16 h_17 (by omega) (by omega) (by omega)

theorem uf_X9_bendsAll_18 (N : Nat) (n : Nat) (x1 : Int32) (x2 : Int32) (x3 : Int32) (x4 : Int32) (v_rowsOf : Int32) (v_columnsOf : Int32) (v_textMany : Int32) (v_base : Int32) (v_at : Int32) (v_ends : Int32) (v_fault : Int32) (v_opened : Int32) (v_bentMany : Int32) (v_bentWrong : Int32) (v_moreWorn : Int32) (v_limit : List Int32) (v_row : List Int32) (v_column : List Int32) (v_face : List Int32) (v_worn : List Int32) (v_lastBend : List Int32) (v_tape : List Int32) (v_text : List Int32) (v_names : List Int32) (v_bends : List Int32) : fX9_bendsAll_18 N (n + 1) x1 x2 x3 x4 v_rowsOf v_columnsOf v_textMany v_base v_at v_ends v_fault v_opened v_bentMany v_bentWrong v_moreWorn v_limit v_row v_column v_face v_worn v_lastBend v_tape v_text v_names v_bends = 
    if (64 : Int32) ≤ x4 then
    (fX9_bendsAll_87 N N x1 (0 : Int32) v_rowsOf v_columnsOf v_textMany v_base v_at v_ends v_fault v_opened v_bentMany v_bentWrong v_moreWorn v_limit v_row v_column v_face v_worn v_lastBend v_tape v_text v_names v_bends)
    else (mm_bd1 (fX9_isCrease N x4 v_rowsOf v_columnsOf) (fun (r_2 : Bool) =>
    if r_2 = false then
    (fX9_bendsAll_53 N (fX9_bendsAll_18 N n) x1 x2 x3 x4 (0 : Int32) x4 v_rowsOf v_columnsOf v_textMany v_base v_at v_ends v_fault v_opened v_bentMany v_bentWrong v_moreWorn v_limit v_row v_column v_face v_worn v_lastBend v_tape v_text v_names v_bends)
    else (mm_bd1 (fX9_bendOf N x1 x4 x2 x3 v_columnsOf v_limit v_row v_column v_face v_worn) (fun (r_5 : Int32) =>
    fX9_bendsAll_53 N (fX9_bendsAll_18 N n) x1 x2 x3 x4 r_5 x4 v_rowsOf v_columnsOf v_textMany v_base v_at v_ends v_fault v_opened v_bentMany v_bentWrong v_moreWorn v_limit v_row v_column v_face v_worn v_lastBend v_tape v_text v_names v_bends)))) := rfl

theorem uf_X9_bendsAll_53 (N : Nat) (k_18 : Int32 → Int32 → Int32 → Int32 → Int32 → Int32 → Int32 → Int32 → Int32 → Int32 → Int32 → Int32 → Int32 → Int32 → Int32 → List Int32 → List Int32 → List Int32 → List Int32 → List Int32 → List Int32 → List Int32 → List Int32 → List Int32 → List Int32 → Option (Int32 × Int32 × Int32 × Int32 × Int32 × Int32 × Int32 × Int32 × List Int32 × List Int32 × List Int32 × List Int32)) (x1 : Int32) (x2 : Int32) (x3 : Int32) (x4 : Int32) (s0 : Int32) (s1 : Int32) (v_rowsOf : Int32) (v_columnsOf : Int32) (v_textMany : Int32) (v_base : Int32) (v_at : Int32) (v_ends : Int32) (v_fault : Int32) (v_opened : Int32) (v_bentMany : Int32) (v_bentWrong : Int32) (v_moreWorn : Int32) (v_limit : List Int32) (v_row : List Int32) (v_column : List Int32) (v_face : List Int32) (v_worn : List Int32) (v_lastBend : List Int32) (v_tape : List Int32) (v_text : List Int32) (v_names : List Int32) (v_bends : List Int32) : fX9_bendsAll_53 N k_18 x1 x2 x3 x4 s0 s1 v_rowsOf v_columnsOf v_textMany v_base v_at v_ends v_fault v_opened v_bentMany v_bentWrong v_moreWorn v_limit v_row v_column v_face v_worn v_lastBend v_tape v_text v_names v_bends = mm_ck (mm_inb s1 v_bends.length) (mm_nm (mm_is v_bends s1 s0) (fun (l_8 : List Int32) =>
    mm_ck (mm_inb x4 l_8.length) (if (mm_ig l_8 x4) ≤ 0 then
    (fX9_bendsAll_74 N k_18 x1 x2 x3 x4 (0 : Int32) v_bentMany v_rowsOf v_columnsOf v_textMany v_base v_at v_ends v_fault v_opened v_bentMany v_bentWrong v_moreWorn v_limit v_row v_column v_face v_worn v_lastBend v_tape v_text v_names l_8)
    else (fX9_bendsAll_74 N k_18 x1 x2 x3 x4 (1 : Int32) v_bentMany v_rowsOf v_columnsOf v_textMany v_base v_at v_ends v_fault v_opened v_bentMany v_bentWrong v_moreWorn v_limit v_row v_column v_face v_worn v_lastBend v_tape v_text v_names l_8)))) := rfl

theorem uf_X9_bendsAll_74 (N : Nat) (k_18 : Int32 → Int32 → Int32 → Int32 → Int32 → Int32 → Int32 → Int32 → Int32 → Int32 → Int32 → Int32 → Int32 → Int32 → Int32 → List Int32 → List Int32 → List Int32 → List Int32 → List Int32 → List Int32 → List Int32 → List Int32 → List Int32 → List Int32 → Option (Int32 × Int32 × Int32 × Int32 × Int32 × Int32 × Int32 × Int32 × List Int32 × List Int32 × List Int32 × List Int32)) (x1 : Int32) (x2 : Int32) (x3 : Int32) (x4 : Int32) (s0 : Int32) (s1 : Int32) (v_rowsOf : Int32) (v_columnsOf : Int32) (v_textMany : Int32) (v_base : Int32) (v_at : Int32) (v_ends : Int32) (v_fault : Int32) (v_opened : Int32) (v_bentMany : Int32) (v_bentWrong : Int32) (v_moreWorn : Int32) (v_limit : List Int32) (v_row : List Int32) (v_column : List Int32) (v_face : List Int32) (v_worn : List Int32) (v_lastBend : List Int32) (v_tape : List Int32) (v_text : List Int32) (v_names : List Int32) (v_bends : List Int32) : fX9_bendsAll_74 N k_18 x1 x2 x3 x4 s0 s1 v_rowsOf v_columnsOf v_textMany v_base v_at v_ends v_fault v_opened v_bentMany v_bentWrong v_moreWorn v_limit v_row v_column v_face v_worn v_lastBend v_tape v_text v_names v_bends = mm_nm ((s1 + s0)) (fun (y_11 : Int32) =>
    mm_nm (x4 + (1 : Int32)) (fun (y_12 : Int32) =>
    k_18 x1 x2 x3 y_12 v_rowsOf v_columnsOf v_textMany v_base v_at v_ends v_fault v_opened y_11 v_bentWrong v_moreWorn v_limit v_row v_column v_face v_worn v_lastBend v_tape v_text v_names v_bends)) := rfl

set_option maxHeartbeats 4000000 in
set_option maxRecDepth 20000 in
theorem sf_X9_bendsAll_18 {N : Nat} (hN : 700 ≤ N)  : ∀ (n : Nat) (x1 : Int32) (x2 : Int32) (x3 : Int32) (x4 : Int32) (v_rowsOf : Int32) (v_columnsOf : Int32) (v_textMany : Int32) (v_base : Int32) (v_at : Int32) (v_ends : Int32) (v_fault : Int32) (v_opened : Int32) (v_bentMany : Int32) (v_bentWrong : Int32) (v_moreWorn : Int32) (v_limit : List Int32) (v_row : List Int32) (v_column : List Int32) (v_face : List Int32) (v_worn : List Int32) (v_lastBend : List Int32) (v_tape : List Int32) (v_text : List Int32) (v_names : List Int32) (v_bends : List Int32), 1 ≤ v_rowsOf.toInt → v_rowsOf.toInt ≤ 4 → 1 ≤ v_columnsOf.toInt → v_columnsOf.toInt ≤ 8 → -1 ≤ v_textMany.toInt → v_textMany.toInt ≤ 120 → v_limit.length = 1 → v_row.length = 192 → v_column.length = 192 → v_face.length = 192 → v_worn.length = 384 → v_lastBend.length = 384 → v_tape.length = 120 → v_text.length = 120 → v_names.length = 6 → v_bends.length = 64 → 0 ≤ x1.toInt → x1.toInt ≤ 5 → 0 ≤ x4.toInt → x4.toInt ≤ 64 → (64 - x4.toInt).toNat < n → wp (fX9_bendsAll_18 N n x1 x2 x3 x4 v_rowsOf v_columnsOf v_textMany v_base v_at v_ends v_fault v_opened v_bentMany v_bentWrong v_moreWorn v_limit v_row v_column v_face v_worn v_lastBend v_tape v_text v_names v_bends) (cu12 (fun (wv_base : Int32) (wv_at : Int32) (wv_ends : Int32) (wv_fault : Int32) (wv_opened : Int32) (wv_bentMany : Int32) (wv_bentWrong : Int32) (wv_moreWorn : Int32) (wv_worn : List Int32) (wv_lastBend : List Int32) (wv_names : List Int32) (wv_bends : List Int32) => wv_worn.length = 384 ∧ wv_lastBend.length = 384 ∧ wv_names.length = 6 ∧ wv_bends.length = 64)) := by
  intro n
  induction n with
  | zero =>
    intro x1 x2 x3 x4 v_rowsOf v_columnsOf v_textMany v_base v_at v_ends v_fault v_opened v_bentMany v_bentWrong v_moreWorn v_limit v_row v_column v_face v_worn v_lastBend v_tape v_text v_names v_bends h_0 h_1 h_2 h_3 h_4 h_5 h_6 h_7 h_8 h_9 h_10 h_11 h_12 h_13 h_14 h_15 h_16 h_17 h_18 h_19 hm
    exact absurd hm (by omega)
  | succ n ih =>
    intro x1 x2 x3 x4 v_rowsOf v_columnsOf v_textMany v_base v_at v_ends v_fault v_opened v_bentMany v_bentWrong v_moreWorn v_limit v_row v_column v_face v_worn v_lastBend v_tape v_text v_names v_bends h_0 h_1 h_2 h_3 h_4 h_5 h_6 h_7 h_8 h_9 h_10 h_11 h_12 h_13 h_14 h_15 h_16 h_17 h_18 h_19 hm
    have m3 := (i_fl (a := v_rowsOf) (b := v_columnsOf) (by omega) (by omega) (by omega) (by omega)).2
    refine wp_of (uf_X9_bendsAll_18 _ _ _ _ _ _ _ _ _ _ _ _ _ _ _ _ _ _ _ _ _ _ _ _ _ _ _) ?_
    have n_2 : (64 : Int32).toInt = 64 := by decide
    refine wp_if (fun c_1 => ?_) (fun c_1 => ?_)
    ·
      have dc_1 := i_le c_1
      have n_3 : (0 : Int32).toInt = 0 := by decide
      exact sf_X9_bendsAll_87 hN _ _ _ _ _ _ _ _ _ _ _ _ _ _ _ _ _ _ _ _ _ _ _ _ h_0 h_1 h_2 h_3 h_4 h_5 h_6 h_7 h_8 h_9 h_10 h_11 h_12 h_13 h_14 h_15 h_16 h_17 (by omega) (by omega) (by omega)
    ·
      have dc_1 := i_nle c_1
      refine wp_bd1 (sf_X9_isCrease hN h_0 h_1 h_2 h_3 h_18) (fun r_2 q_4 => ?_)
      rcases q_4 with ⟨rfl, q_4⟩ | ⟨rfl, q_4⟩
      ·
        refine wp_ifn (by decide) ?_
        refine wp_bd1 (sf_X9_bendOf hN h_2 h_3 h_6 h_7 h_8 h_9 h_10 h_16 h_17 h_18 (by omega) (by omega) (by omega)) (fun r_5 _ => ?_)
        refine wp_of (uf_X9_bendsAll_53 _ _ _ _ _ _ _ _ _ _ _ _ _ _ _ _ _ _ _ _ _ _ _ _ _ _ _ _ _) ?_
        refine wp_ck (i_inb (by omega) (by omega)) ?_
        refine wp_nm (fun l_8 h_l_8 => ?_)
        have nl_l_8 : l_8.length = 64 := by rw [h_l_8, is_len]; assumption
        refine wp_ck (i_inb (by omega) (by omega)) ?_
        have n_6 : (0 : Int32).toInt = 0 := by decide
        refine wp_if (fun c_5 => ?_) (fun c_5 => ?_)
        ·
          have dc_5 := i_le c_5
          refine wp_of (uf_X9_bendsAll_74 _ _ _ _ _ _ _ _ _ _ _ _ _ _ _ _ _ _ _ _ _ _ _ _ _ _ _ _ _) ?_
          refine wp_nm (fun y_11 _ => ?_)
          have n_7 : (1 : Int32).toInt = 1 := by decide
          refine wp_nm (fun y_12 h_y_12 => ?_)
          have e_8 := i_addE h_y_12.symm (by omega) (by omega)
          exact ih _ _ _ _ _ _ _ _ _ _ _ _ _ _ _ _ _ _ _ _ _ _ _ _ _ h_0 h_1 h_2 h_3 h_4 h_5 h_6 h_7 h_8 h_9 h_10 h_11 h_12 h_13 h_14 nl_l_8 h_16 h_17 (by omega) (by omega) (by omega)
        ·
          have dc_5 := i_nle c_5
          refine wp_of (uf_X9_bendsAll_74 _ _ _ _ _ _ _ _ _ _ _ _ _ _ _ _ _ _ _ _ _ _ _ _ _ _ _ _ _) ?_
          refine wp_nm (fun y_11__9 _ => ?_)
          have n_11 : (1 : Int32).toInt = 1 := by decide
          refine wp_nm (fun y_12__10 h_y_12__10 => ?_)
          have e_12 := i_addE h_y_12__10.symm (by omega) (by omega)
          exact ih _ _ _ _ _ _ _ _ _ _ _ _ _ _ _ _ _ _ _ _ _ _ _ _ _ h_0 h_1 h_2 h_3 h_4 h_5 h_6 h_7 h_8 h_9 h_10 h_11 h_12 h_13 h_14 nl_l_8 h_16 h_17 (by omega) (by omega) (by omega)
      ·
        refine wp_ifp (by decide) ?_
        refine wp_of (uf_X9_bendsAll_53 _ _ _ _ _ _ _ _ _ _ _ _ _ _ _ _ _ _ _ _ _ _ _ _ _ _ _ _ _) ?_
        refine wp_ck (i_inb (by omega) (by omega)) ?_
        have n_14 : (0 : Int32).toInt = 0 := by decide
        refine wp_nm (fun l_8__13 h_l_8__13 => ?_)
        have nl_l_8__13 : l_8__13.length = 64 := by rw [h_l_8__13, is_len]; assumption
        refine wp_ck (i_inb (by omega) (by omega)) ?_
        refine wp_if (fun c_15 => ?_) (fun c_15 => ?_)
        ·
          have dc_15 := i_le c_15
          refine wp_of (uf_X9_bendsAll_74 _ _ _ _ _ _ _ _ _ _ _ _ _ _ _ _ _ _ _ _ _ _ _ _ _ _ _ _ _) ?_
          refine wp_nm (fun y_11__16 _ => ?_)
          have n_18 : (1 : Int32).toInt = 1 := by decide
          refine wp_nm (fun y_12__17 h_y_12__17 => ?_)
          have e_19 := i_addE h_y_12__17.symm (by omega) (by omega)
          exact ih _ _ _ _ _ _ _ _ _ _ _ _ _ _ _ _ _ _ _ _ _ _ _ _ _ h_0 h_1 h_2 h_3 h_4 h_5 h_6 h_7 h_8 h_9 h_10 h_11 h_12 h_13 h_14 nl_l_8__13 h_16 h_17 (by omega) (by omega) (by omega)
        ·
          have dc_15 := i_nle c_15
          refine wp_of (uf_X9_bendsAll_74 _ _ _ _ _ _ _ _ _ _ _ _ _ _ _ _ _ _ _ _ _ _ _ _ _ _ _ _ _) ?_
          refine wp_nm (fun y_11__20 _ => ?_)
          have n_22 : (1 : Int32).toInt = 1 := by decide
          refine wp_nm (fun y_12__21 h_y_12__21 => ?_)
          have e_23 := i_addE h_y_12__21.symm (by omega) (by omega)
          exact ih _ _ _ _ _ _ _ _ _ _ _ _ _ _ _ _ _ _ _ _ _ _ _ _ _ h_0 h_1 h_2 h_3 h_4 h_5 h_6 h_7 h_8 h_9 h_10 h_11 h_12 h_13 h_14 nl_l_8__13 h_16 h_17 (by omega) (by omega) (by omega)

theorem uf_X9_bendsAll (N : Nat) (x1 : Int32) (x2 : Int32) (x3 : Int32) (v_rowsOf : Int32) (v_columnsOf : Int32) (v_textMany : Int32) (v_base : Int32) (v_at : Int32) (v_ends : Int32) (v_fault : Int32) (v_opened : Int32) (v_bentMany : Int32) (v_bentWrong : Int32) (v_moreWorn : Int32) (v_limit : List Int32) (v_row : List Int32) (v_column : List Int32) (v_face : List Int32) (v_worn : List Int32) (v_lastBend : List Int32) (v_tape : List Int32) (v_text : List Int32) (v_names : List Int32) (v_bends : List Int32) : fX9_bendsAll N x1 x2 x3 v_rowsOf v_columnsOf v_textMany v_base v_at v_ends v_fault v_opened v_bentMany v_bentWrong v_moreWorn v_limit v_row v_column v_face v_worn v_lastBend v_tape v_text v_names v_bends = fX9_bendsAll_18 N N x1 x2 x3 (0 : Int32) v_rowsOf v_columnsOf v_textMany v_base v_at v_ends v_fault v_opened (0 : Int32) (0 : Int32) (0 : Int32) v_limit v_row v_column v_face v_worn v_lastBend v_tape v_text v_names v_bends := rfl

set_option maxHeartbeats 4000000 in
set_option maxRecDepth 20000 in
theorem sf_X9_bendsAll {N : Nat} (hN : 700 ≤ N) {x1 : Int32} {x2 : Int32} {x3 : Int32} {v_rowsOf : Int32} {v_columnsOf : Int32} {v_textMany : Int32} {v_base : Int32} {v_at : Int32} {v_ends : Int32} {v_fault : Int32} {v_opened : Int32} {v_bentMany : Int32} {v_bentWrong : Int32} {v_moreWorn : Int32} {v_limit : List Int32} {v_row : List Int32} {v_column : List Int32} {v_face : List Int32} {v_worn : List Int32} {v_lastBend : List Int32} {v_tape : List Int32} {v_text : List Int32} {v_names : List Int32} {v_bends : List Int32} (h_0 : 1 ≤ v_rowsOf.toInt) (h_1 : v_rowsOf.toInt ≤ 4) (h_2 : 1 ≤ v_columnsOf.toInt) (h_3 : v_columnsOf.toInt ≤ 8) (h_4 : -1 ≤ v_textMany.toInt) (h_5 : v_textMany.toInt ≤ 120) (h_6 : v_limit.length = 1) (h_7 : v_row.length = 192) (h_8 : v_column.length = 192) (h_9 : v_face.length = 192) (h_10 : v_worn.length = 384) (h_11 : v_lastBend.length = 384) (h_12 : v_tape.length = 120) (h_13 : v_text.length = 120) (h_14 : v_names.length = 6) (h_15 : v_bends.length = 64) (h_16 : 0 ≤ x1.toInt) (h_17 : x1.toInt ≤ 5) : wp (fX9_bendsAll N x1 x2 x3 v_rowsOf v_columnsOf v_textMany v_base v_at v_ends v_fault v_opened v_bentMany v_bentWrong v_moreWorn v_limit v_row v_column v_face v_worn v_lastBend v_tape v_text v_names v_bends) (cu12 (fun (wv_base : Int32) (wv_at : Int32) (wv_ends : Int32) (wv_fault : Int32) (wv_opened : Int32) (wv_bentMany : Int32) (wv_bentWrong : Int32) (wv_moreWorn : Int32) (wv_worn : List Int32) (wv_lastBend : List Int32) (wv_names : List Int32) (wv_bends : List Int32) => wv_worn.length = 384 ∧ wv_lastBend.length = 384 ∧ wv_names.length = 6 ∧ wv_bends.length = 64)) := by
  refine wp_of (uf_X9_bendsAll _ _ _ _ _ _ _ _ _ _ _ _ _ _ _ _ _ _ _ _ _ _ _ _ _) ?_
  have n_1 : (0 : Int32).toInt = 0 := by decide
  exact sf_X9_bendsAll_18 hN _ _ _ _ _ _ _ _ _ _ _ _ _ _ _ _ _ _ _ _ _ _ _ _ _ _ h_0 h_1 h_2 h_3 h_4 h_5 h_6 h_7 h_8 h_9 h_10 h_11 h_12 h_13 h_14 h_15 h_16 h_17 (by omega) (by omega) (by omega)
