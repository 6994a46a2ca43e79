section
/-! safe -/
theorem uf_X9_movesAll (N : Nat) (x1 : Int32) (x2 : Int32) (x3 : Int32) (v_rowsOf : Int32) (v_columnsOf : Int32) (v_shapeRows : List Int32) (v_shapeColumns : List Int32) (v_row : List Int32) (v_column : List Int32) (v_below : List Int32) (v_face : List Int32) (v_high : List Int32) (v_to : List Int32) (v_pileSize : List Int32) : fX9_movesAll N x1 x2 x3 v_rowsOf v_columnsOf v_shapeRows v_shapeColumns v_row v_column v_below v_face v_high v_to v_pileSize = if (4 : Int32) ≤ x3 then
    (fX9_movesAll_10 N x1 x2 x3 (0 : Int32) v_rowsOf v_columnsOf v_shapeRows v_shapeColumns v_row v_column v_below v_face v_high v_to v_pileSize)
    else (fX9_movesAll_10 N x1 x2 x3 (1 : Int32) v_rowsOf v_columnsOf v_shapeRows v_shapeColumns v_row v_column v_below v_face v_high v_to v_pileSize) := rfl

theorem uf_X9_movesAll_10 (N : Nat) (x1 : Int32) (x2 : Int32) (x3 : Int32) (s0 : Int32) (v_rowsOf : Int32) (v_columnsOf : Int32) (v_shapeRows : List Int32) (v_shapeColumns : List Int32) (v_row : List Int32) (v_column : List Int32) (v_below : List Int32) (v_face : List Int32) (v_high : List Int32) (v_to : List Int32) (v_pileSize : List Int32) : fX9_movesAll_10 N x1 x2 x3 s0 v_rowsOf v_columnsOf v_shapeRows v_shapeColumns v_row v_column v_below v_face v_high v_to v_pileSize = mm_ck (mm_nz (4 : Int32)) (if (2 : Int32) ≤ (mm_rem x3 (4 : Int32)) then
    (fX9_movesAll_24 N x1 x2 x3 s0 (0 : Int32) v_rowsOf v_columnsOf v_shapeRows v_shapeColumns v_row v_column v_below v_face v_high v_to v_pileSize)
    else (fX9_movesAll_24 N x1 x2 x3 s0 (1 : Int32) v_rowsOf v_columnsOf v_shapeRows v_shapeColumns v_row v_column v_below v_face v_high v_to v_pileSize)) := rfl

theorem uf_X9_movesAll_24 (N : Nat) (x1 : Int32) (x2 : Int32) (x3 : Int32) (x4 : Int32) (s0 : Int32) (v_rowsOf : Int32) (v_columnsOf : Int32) (v_shapeRows : List Int32) (v_shapeColumns : List Int32) (v_row : List Int32) (v_column : List Int32) (v_below : List Int32) (v_face : List Int32) (v_high : List Int32) (v_to : List Int32) (v_pileSize : List Int32) : fX9_movesAll_24 N x1 x2 x3 x4 s0 v_rowsOf v_columnsOf v_shapeRows v_shapeColumns v_row v_column v_below v_face v_high v_to v_pileSize = mm_ck (mm_nz (2 : Int32)) (if (mm_rem x3 (2 : Int32)) = 0 then
    (fX9_movesAll_37 N x1 x2 x4 s0 (1 : Int32) v_rowsOf v_columnsOf v_shapeRows v_shapeColumns v_row v_column v_below v_face v_high v_to v_pileSize)
    else (fX9_movesAll_37 N x1 x2 x4 s0 (0 : Int32) v_rowsOf v_columnsOf v_shapeRows v_shapeColumns v_row v_column v_below v_face v_high v_to v_pileSize)) := rfl

theorem uf_X9_movesAll_37 (N : Nat) (x1 : Int32) (x2 : Int32) (x4 : Int32) (x5 : Int32) (s0 : Int32) (v_rowsOf : Int32) (v_columnsOf : Int32) (v_shapeRows : List Int32) (v_shapeColumns : List Int32) (v_row : List Int32) (v_column : List Int32) (v_below : List Int32) (v_face : List Int32) (v_high : List Int32) (v_to : List Int32) (v_pileSize : List Int32) : fX9_movesAll_37 N x1 x2 x4 x5 s0 v_rowsOf v_columnsOf v_shapeRows v_shapeColumns v_row v_column v_below v_face v_high v_to v_pileSize = if x4 = 0 then
    (mm_ck (mm_inb x1 v_shapeRows.length) (fX9_movesAll_59 N x1 x2 x4 x5 s0 (mm_ig v_shapeRows x1) v_rowsOf v_columnsOf v_shapeRows v_shapeColumns v_row v_column v_below v_face v_high v_to v_pileSize))
    else (mm_ck (mm_inb x1 v_shapeColumns.length) (fX9_movesAll_59 N x1 x2 x4 x5 s0 (mm_ig v_shapeColumns x1) v_rowsOf v_columnsOf v_shapeRows v_shapeColumns v_row v_column v_below v_face v_high v_to v_pileSize)) := rfl

theorem uf_X9_movesAll_59 (N : Nat) (x1 : Int32) (x2 : Int32) (x4 : Int32) (x5 : Int32) (x6 : Int32) (s0 : Int32) (v_rowsOf : Int32) (v_columnsOf : Int32) (v_shapeRows : List Int32) (v_shapeColumns : List Int32) (v_row : List Int32) (v_column : List Int32) (v_below : List Int32) (v_face : List Int32) (v_high : List Int32) (v_to : List Int32) (v_pileSize : List Int32) : fX9_movesAll_59 N x1 x2 x4 x5 x6 s0 v_rowsOf v_columnsOf v_shapeRows v_shapeColumns v_row v_column v_below v_face v_high v_to v_pileSize = if x5 = 0 then
    (if 0 ≤ (((2 : Int32) * x2) - s0) then
    (fX9_movesAll_89 N x1 x2 x4 x5 x6 s0 (0 : Int32) v_rowsOf v_columnsOf v_shapeRows v_shapeColumns v_row v_column v_below v_face v_high v_to v_pileSize)
    else (fX9_movesAll_89 N x1 x2 x4 x5 x6 s0 (((2 : Int32) * x2) - s0) v_rowsOf v_columnsOf v_shapeRows v_shapeColumns v_row v_column v_below v_face v_high v_to v_pileSize))
    else (fX9_movesAll_89 N x1 x2 x4 x5 x6 s0 x2 v_rowsOf v_columnsOf v_shapeRows v_shapeColumns v_row v_column v_below v_face v_high v_to v_pileSize) := rfl

theorem uf_X9_movesAll_89 (N : Nat) (x1 : Int32) (x2 : Int32) (x4 : Int32) (x5 : Int32) (x6 : Int32) (x7 : Int32) (s0 : Int32) (v_rowsOf : Int32) (v_columnsOf : Int32) (v_shapeRows : List Int32) (v_shapeColumns : List Int32) (v_row : List Int32) (v_column : List Int32) (v_below : List Int32) (v_face : List Int32) (v_high : List Int32) (v_to : List Int32) (v_pileSize : List Int32) : fX9_movesAll_89 N x1 x2 x4 x5 x6 x7 s0 v_rowsOf v_columnsOf v_shapeRows v_shapeColumns v_row v_column v_below v_face v_high v_to v_pileSize = fX9_movesAll_94 N N x1 x2 x4 x5 x6 x7 s0 (0 : Int32) v_rowsOf v_columnsOf v_shapeRows v_shapeColumns v_row v_column v_below v_face v_high v_to v_pileSize := rfl

set_option maxHeartbeats 4000000 in
set_option maxRecDepth 20000 in
theorem sf_X9_movesAll {N : Nat} (hN : 700 ≤ N) {u_row : List Int32} {u_col : List Int32} {u_sR : List Int32} {u_sC : List Int32} {A : Int} {B9 : Int} {a9 : Int} {b9 : Int} {x1 : Int32} {x2 : Int32} {x3 : Int32} {v_rowsOf : Int32} {v_columnsOf : Int32} {v_shapeRows : List Int32} {v_shapeColumns : List Int32} {v_row : List Int32} {v_column : List Int32} {v_below : List Int32} {v_face : List Int32} {v_high : List Int32} {v_to : List Int32} {v_pileSize : List Int32} (h_0 : 1 ≤ v_rowsOf.toInt) (h_1 : v_rowsOf.toInt ≤ 4) (h_2 : 1 ≤ v_columnsOf.toInt) (h_3 : v_columnsOf.toInt ≤ 8) (h_4 : v_shapeRows.length = 6) (h_5 : v_shapeColumns.length = 6) (h_6 : v_row.length = 192) (h_7 : v_column.length = 192) (h_8 : v_below.length = 192) (h_9 : v_face.length = 192) (h_10 : v_high.length = 32) (h_11 : v_to.length = 32) (h_12 : v_pileSize.length = 64) (h_13 : 0 ≤ x1.toInt) (h_14 : x1.toInt ≤ 5) (h_15 : fr u_row v_row A B9) (h_16 : fr u_col v_column A B9) (h_17 : fr u_sR v_shapeRows a9 b9) (h_18 : fr u_sC v_shapeColumns a9 b9) (h_19 : A ≤ 32 * x1.toInt) (h_20 : 32 * x1.toInt + 32 ≤ B9) (h_21 : a9 ≤ x1.toInt) (h_22 : x1.toInt < b9) (h_23 : 1 ≤ x2.toInt) (h_24 : (x3.toInt < 4 → x2.toInt < (mm_ig v_shapeColumns x1).toInt)) (h_25 : (4 ≤ x3.toInt → x2.toInt < (mm_ig v_shapeRows x1).toInt)) (h_26 : lv9 v_rowsOf v_columnsOf v_shapeRows v_shapeColumns v_row v_column x1) : wp (fX9_movesAll N x1 x2 x3 v_rowsOf v_columnsOf v_shapeRows v_shapeColumns v_row v_column v_below v_face v_high v_to v_pileSize) (cu9 (fun (wv_shapeRows : List Int32) (wv_shapeColumns : List Int32) (wv_row : List Int32) (wv_column : List Int32) (wv_below : List Int32) (wv_face : List Int32) (wv_high : List Int32) (wv_to : List Int32) (wv_pileSize : List Int32) => wv_shapeRows.length = 6 ∧ wv_shapeColumns.length = 6 ∧ wv_row.length = 192 ∧ wv_column.length = 192 ∧ wv_below.length = 192 ∧ wv_face.length = 192 ∧ wv_high.length = 32 ∧ wv_to.length = 32 ∧ wv_pileSize.length = 64 ∧ fr u_row wv_row A B9 ∧ fr u_col wv_column A B9 ∧ fr u_sR wv_shapeRows a9 b9 ∧ fr u_sC wv_shapeColumns a9 b9 ∧ lv9 v_rowsOf v_columnsOf wv_shapeRows wv_shapeColumns wv_row wv_column x1)) := by
  have m3 := (i_fl (a := v_rowsOf) (b := v_columnsOf) (by omega) (by omega) (by omega) (by omega)).2
  obtain ⟨l1, l2, l3, l4, l5, l6⟩ := id (show lv9 v_rowsOf v_columnsOf v_shapeRows v_shapeColumns v_row v_column x1 by assumption)
  refine wp_of (uf_X9_movesAll _ _ _ _ _ _ _ _ _ _ _ _ _ _ _) ?_
  have n_2 : (4 : Int32).toInt = 4 := by decide
  refine wp_if (fun c_1 => ?_) (fun c_1 => ?_)
  ·
    have dc_1 := i_le c_1
    refine wp_of (uf_X9_movesAll_10 _ _ _ _ _ _ _ _ _ _ _ _ _ _ _ _) ?_
    refine wp_ck (i_nz (by omega)) ?_
    have n_4 : (2 : Int32).toInt = 2 := by decide
    generalize hz_z : (mm_rem x3 (4 : Int32)) = z
    have e_5 := i_remL (c := 4) (by decide) (by decide) hz_z
    refine wp_if (fun c_3 => ?_) (fun c_3 => ?_)
    ·
      have dc_3 := i_le c_3
      refine wp_of (uf_X9_movesAll_24 _ _ _ _ _ _ _ _ _ _ _ _ _ _ _ _ _) ?_
      refine wp_ck (i_nz (by omega)) ?_
      generalize hz_z__7 : (mm_rem x3 (2 : Int32)) = z__7
      have e_8 := i_remL (c := 2) (by decide) (by decide) hz_z__7
      have n_9 : (0 : Int32).toInt = 0 := by decide
      refine wp_if (fun c_6 => ?_) (fun c_6 => ?_)
      ·
        have dc_6 := i_eq c_6
        refine wp_of (uf_X9_movesAll_37 _ _ _ _ _ _ _ _ _ _ _ _ _ _ _ _ _) ?_
        refine wp_ifp (by decide) ?_
        refine wp_ck (i_inb (by omega) (by omega)) ?_
        refine wp_of (uf_X9_movesAll_59 _ _ _ _ _ _ _ _ _ _ _ _ _ _ _ _ _ _) ?_
        refine wp_ifp (by decide) ?_
        generalize hz_z__11 : ((2 : Int32) * x2) = z__11
        first | have e_12 := i_mulLE (c := 2) (by decide) hz_z__11 (by omega) (by omega) | obtain ⟨k_12, e_12, e1_12, e2_12⟩ := i_mulL (c := 2) (by decide) hz_z__11
        generalize hz_z__13 : (z__11 - (mm_ig v_shapeRows x1)) = z__13
        first | have e_14 := i_subE hz_z__13 (by omega) (by omega) | obtain ⟨k_14, e_14, e1_14, e2_14⟩ := i_subY hz_z__13
        refine wp_if (fun c_10 => ?_) (fun c_10 => ?_)
        ·
          have dc_10 := i_le c_10
          refine wp_of (uf_X9_movesAll_89 _ _ _ _ _ _ _ _ _ _ _ _ _ _ _ _ _ _ _) ?_
          exact sf_X9_movesAll_94_re (u_row := u_row) (u_col := u_col) (u_sR := u_sR) (u_sC := u_sC) (A := A) (B9 := B9) (a9 := a9) (b9 := b9) hN _ _ _ _ _ _ _ _ _ _ _ _ _ _ _ _ _ _ _ _ h_0 h_1 h_2 h_3 h_4 h_5 h_6 h_7 h_8 h_9 h_10 h_11 h_12 h_13 h_14 (by first | assumption | omega | decide) h_23 (by omega) (by omega) (by first | assumption | omega | decide) (by omega) (by omega) h_15 h_16 h_17 h_18 h_19 h_20 h_21 h_22 h_26 (by omega) (by omega) (by omega)
        ·
          have dc_10 := i_nle c_10
          refine wp_of (uf_X9_movesAll_89 _ _ _ _ _ _ _ _ _ _ _ _ _ _ _ _ _ _ _) ?_
          exact sf_X9_movesAll_94_re (u_row := u_row) (u_col := u_col) (u_sR := u_sR) (u_sC := u_sC) (A := A) (B9 := B9) (a9 := a9) (b9 := b9) hN _ _ _ _ _ _ _ _ _ _ _ _ _ _ _ _ _ _ _ _ h_0 h_1 h_2 h_3 h_4 h_5 h_6 h_7 h_8 h_9 h_10 h_11 h_12 h_13 h_14 (by first | assumption | omega | decide) h_23 (by omega) (by omega) (by first | assumption | omega | decide) (by omega) (by omega) h_15 h_16 h_17 h_18 h_19 h_20 h_21 h_22 h_26 (by omega) (by omega) (by omega)
      ·
        have dc_6 := i_ne c_6
        refine wp_of (uf_X9_movesAll_37 _ _ _ _ _ _ _ _ _ _ _ _ _ _ _ _ _) ?_
        refine wp_ifp (by decide) ?_
        refine wp_ck (i_inb (by omega) (by omega)) ?_
        refine wp_of (uf_X9_movesAll_59 _ _ _ _ _ _ _ _ _ _ _ _ _ _ _ _ _ _) ?_
        refine wp_ifp (by decide) ?_
        generalize hz_z__16 : ((2 : Int32) * x2) = z__16
        first | have e_17 := i_mulLE (c := 2) (by decide) hz_z__16 (by omega) (by omega) | obtain ⟨k_17, e_17, e1_17, e2_17⟩ := i_mulL (c := 2) (by decide) hz_z__16
        generalize hz_z__18 : (z__16 - (mm_ig v_shapeRows x1)) = z__18
        first | have e_19 := i_subE hz_z__18 (by omega) (by omega) | obtain ⟨k_19, e_19, e1_19, e2_19⟩ := i_subY hz_z__18
        refine wp_if (fun c_15 => ?_) (fun c_15 => ?_)
        ·
          have dc_15 := i_le c_15
          refine wp_of (uf_X9_movesAll_89 _ _ _ _ _ _ _ _ _ _ _ _ _ _ _ _ _ _ _) ?_
          exact sf_X9_movesAll_94_re (u_row := u_row) (u_col := u_col) (u_sR := u_sR) (u_sC := u_sC) (A := A) (B9 := B9) (a9 := a9) (b9 := b9) hN _ _ _ _ _ _ _ _ _ _ _ _ _ _ _ _ _ _ _ _ h_0 h_1 h_2 h_3 h_4 h_5 h_6 h_7 h_8 h_9 h_10 h_11 h_12 h_13 h_14 (by first | assumption | omega | decide) h_23 (by omega) (by omega) (by first | assumption | omega | decide) (by omega) (by omega) h_15 h_16 h_17 h_18 h_19 h_20 h_21 h_22 h_26 (by omega) (by omega) (by omega)
        ·
          have dc_15 := i_nle c_15
          refine wp_of (uf_X9_movesAll_89 _ _ _ _ _ _ _ _ _ _ _ _ _ _ _ _ _ _ _) ?_
          exact sf_X9_movesAll_94_re (u_row := u_row) (u_col := u_col) (u_sR := u_sR) (u_sC := u_sC) (A := A) (B9 := B9) (a9 := a9) (b9 := b9) hN _ _ _ _ _ _ _ _ _ _ _ _ _ _ _ _ _ _ _ _ h_0 h_1 h_2 h_3 h_4 h_5 h_6 h_7 h_8 h_9 h_10 h_11 h_12 h_13 h_14 (by first | assumption | omega | decide) h_23 (by omega) (by omega) (by first | assumption | omega | decide) (by omega) (by omega) h_15 h_16 h_17 h_18 h_19 h_20 h_21 h_22 h_26 (by omega) (by omega) (by omega)
    ·
      have dc_3 := i_nle c_3
      refine wp_of (uf_X9_movesAll_24 _ _ _ _ _ _ _ _ _ _ _ _ _ _ _ _ _) ?_
      refine wp_ck (i_nz (by omega)) ?_
      generalize hz_z__21 : (mm_rem x3 (2 : Int32)) = z__21
      have e_22 := i_remL (c := 2) (by decide) (by decide) hz_z__21
      have n_23 : (0 : Int32).toInt = 0 := by decide
      refine wp_if (fun c_20 => ?_) (fun c_20 => ?_)
      ·
        have dc_20 := i_eq c_20
        refine wp_of (uf_X9_movesAll_37 _ _ _ _ _ _ _ _ _ _ _ _ _ _ _ _ _) ?_
        refine wp_ifp (by decide) ?_
        refine wp_ck (i_inb (by omega) (by omega)) ?_
        refine wp_of (uf_X9_movesAll_59 _ _ _ _ _ _ _ _ _ _ _ _ _ _ _ _ _ _) ?_
        refine wp_ifn (by decide) ?_
        refine wp_of (uf_X9_movesAll_89 _ _ _ _ _ _ _ _ _ _ _ _ _ _ _ _ _ _ _) ?_
        have n_24 : (1 : Int32).toInt = 1 := by decide
        exact sf_X9_movesAll_94_rs (u_row := u_row) (u_col := u_col) (u_sR := u_sR) (u_sC := u_sC) (A := A) (B9 := B9) (a9 := a9) (b9 := b9) hN _ _ _ _ _ _ _ _ _ _ _ _ _ _ _ _ _ _ _ _ h_0 h_1 h_2 h_3 h_4 h_5 h_6 h_7 h_8 h_9 h_10 h_11 h_12 h_13 h_14 (by first | assumption | omega | decide) h_23 (by omega) (by omega) (by first | assumption | omega | decide) (by omega) (by omega) h_15 h_16 h_17 h_18 h_19 h_20 h_21 h_22 h_26 (by omega) (by omega) (by omega)
      ·
        have dc_20 := i_ne c_20
        refine wp_of (uf_X9_movesAll_37 _ _ _ _ _ _ _ _ _ _ _ _ _ _ _ _ _) ?_
        refine wp_ifp (by decide) ?_
        refine wp_ck (i_inb (by omega) (by omega)) ?_
        refine wp_of (uf_X9_movesAll_59 _ _ _ _ _ _ _ _ _ _ _ _ _ _ _ _ _ _) ?_
        refine wp_ifn (by decide) ?_
        refine wp_of (uf_X9_movesAll_89 _ _ _ _ _ _ _ _ _ _ _ _ _ _ _ _ _ _ _) ?_
        have n_25 : (1 : Int32).toInt = 1 := by decide
        exact sf_X9_movesAll_94_rs (u_row := u_row) (u_col := u_col) (u_sR := u_sR) (u_sC := u_sC) (A := A) (B9 := B9) (a9 := a9) (b9 := b9) hN _ _ _ _ _ _ _ _ _ _ _ _ _ _ _ _ _ _ _ _ h_0 h_1 h_2 h_3 h_4 h_5 h_6 h_7 h_8 h_9 h_10 h_11 h_12 h_13 h_14 (by first | assumption | omega | decide) h_23 (by omega) (by omega) (by first | assumption | omega | decide) (by omega) (by omega) h_15 h_16 h_17 h_18 h_19 h_20 h_21 h_22 h_26 (by omega) (by omega) (by omega)
  ·
    have dc_1 := i_nle c_1
    refine wp_of (uf_X9_movesAll_10 _ _ _ _ _ _ _ _ _ _ _ _ _ _ _ _) ?_
    refine wp_ck (i_nz (by omega)) ?_
    have n_27 : (2 : Int32).toInt = 2 := by decide
    generalize hz_z__28 : (mm_rem x3 (4 : Int32)) = z__28
    have e_29 := i_remL (c := 4) (by decide) (by decide) hz_z__28
    refine wp_if (fun c_26 => ?_) (fun c_26 => ?_)
    ·
      have dc_26 := i_le c_26
      refine wp_of (uf_X9_movesAll_24 _ _ _ _ _ _ _ _ _ _ _ _ _ _ _ _ _) ?_
      refine wp_ck (i_nz (by omega)) ?_
      generalize hz_z__31 : (mm_rem x3 (2 : Int32)) = z__31
      have e_32 := i_remL (c := 2) (by decide) (by decide) hz_z__31
      have n_33 : (0 : Int32).toInt = 0 := by decide
      refine wp_if (fun c_30 => ?_) (fun c_30 => ?_)
      ·
        have dc_30 := i_eq c_30
        refine wp_of (uf_X9_movesAll_37 _ _ _ _ _ _ _ _ _ _ _ _ _ _ _ _ _) ?_
        refine wp_ifn (by decide) ?_
        refine wp_ck (i_inb (by omega) (by omega)) ?_
        refine wp_of (uf_X9_movesAll_59 _ _ _ _ _ _ _ _ _ _ _ _ _ _ _ _ _ _) ?_
        refine wp_ifp (by decide) ?_
        generalize hz_z__35 : ((2 : Int32) * x2) = z__35
        first | have e_36 := i_mulLE (c := 2) (by decide) hz_z__35 (by omega) (by omega) | obtain ⟨k_36, e_36, e1_36, e2_36⟩ := i_mulL (c := 2) (by decide) hz_z__35
        generalize hz_z__37 : (z__35 - (mm_ig v_shapeColumns x1)) = z__37
        first | have e_38 := i_subE hz_z__37 (by omega) (by omega) | obtain ⟨k_38, e_38, e1_38, e2_38⟩ := i_subY hz_z__37
        refine wp_if (fun c_34 => ?_) (fun c_34 => ?_)
        ·
          have dc_34 := i_le c_34
          refine wp_of (uf_X9_movesAll_89 _ _ _ _ _ _ _ _ _ _ _ _ _ _ _ _ _ _ _) ?_
          have n_39 : (1 : Int32).toInt = 1 := by decide
          exact sf_X9_movesAll_94_ce (u_row := u_row) (u_col := u_col) (u_sR := u_sR) (u_sC := u_sC) (A := A) (B9 := B9) (a9 := a9) (b9 := b9) hN _ _ _ _ _ _ _ _ _ _ _ _ _ _ _ _ _ _ _ _ h_0 h_1 h_2 h_3 h_4 h_5 h_6 h_7 h_8 h_9 h_10 h_11 h_12 h_13 h_14 (by first | assumption | omega | decide) h_23 (by omega) (by omega) (by first | assumption | omega | decide) (by omega) (by omega) h_15 h_16 h_17 h_18 h_19 h_20 h_21 h_22 h_26 (by omega) (by omega) (by omega)
        ·
          have dc_34 := i_nle c_34
          refine wp_of (uf_X9_movesAll_89 _ _ _ _ _ _ _ _ _ _ _ _ _ _ _ _ _ _ _) ?_
          have n_40 : (1 : Int32).toInt = 1 := by decide
          exact sf_X9_movesAll_94_ce (u_row := u_row) (u_col := u_col) (u_sR := u_sR) (u_sC := u_sC) (A := A) (B9 := B9) (a9 := a9) (b9 := b9) hN _ _ _ _ _ _ _ _ _ _ _ _ _ _ _ _ _ _ _ _ h_0 h_1 h_2 h_3 h_4 h_5 h_6 h_7 h_8 h_9 h_10 h_11 h_12 h_13 h_14 (by first | assumption | omega | decide) h_23 (by omega) (by omega) (by first | assumption | omega | decide) (by omega) (by omega) h_15 h_16 h_17 h_18 h_19 h_20 h_21 h_22 h_26 (by omega) (by omega) (by omega)
      ·
        have dc_30 := i_ne c_30
        refine wp_of (uf_X9_movesAll_37 _ _ _ _ _ _ _ _ _ _ _ _ _ _ _ _ _) ?_
        refine wp_ifn (by decide) ?_
        refine wp_ck (i_inb (by omega) (by omega)) ?_
        refine wp_of (uf_X9_movesAll_59 _ _ _ _ _ _ _ _ _ _ _ _ _ _ _ _ _ _) ?_
        refine wp_ifp (by decide) ?_
        generalize hz_z__42 : ((2 : Int32) * x2) = z__42
        first | have e_43 := i_mulLE (c := 2) (by decide) hz_z__42 (by omega) (by omega) | obtain ⟨k_43, e_43, e1_43, e2_43⟩ := i_mulL (c := 2) (by decide) hz_z__42
        generalize hz_z__44 : (z__42 - (mm_ig v_shapeColumns x1)) = z__44
        first | have e_45 := i_subE hz_z__44 (by omega) (by omega) | obtain ⟨k_45, e_45, e1_45, e2_45⟩ := i_subY hz_z__44
        refine wp_if (fun c_41 => ?_) (fun c_41 => ?_)
        ·
          have dc_41 := i_le c_41
          refine wp_of (uf_X9_movesAll_89 _ _ _ _ _ _ _ _ _ _ _ _ _ _ _ _ _ _ _) ?_
          have n_46 : (1 : Int32).toInt = 1 := by decide
          exact sf_X9_movesAll_94_ce (u_row := u_row) (u_col := u_col) (u_sR := u_sR) (u_sC := u_sC) (A := A) (B9 := B9) (a9 := a9) (b9 := b9) hN _ _ _ _ _ _ _ _ _ _ _ _ _ _ _ _ _ _ _ _ h_0 h_1 h_2 h_3 h_4 h_5 h_6 h_7 h_8 h_9 h_10 h_11 h_12 h_13 h_14 (by first | assumption | omega | decide) h_23 (by omega) (by omega) (by first | assumption | omega | decide) (by omega) (by omega) h_15 h_16 h_17 h_18 h_19 h_20 h_21 h_22 h_26 (by omega) (by omega) (by omega)
        ·
          have dc_41 := i_nle c_41
          refine wp_of (uf_X9_movesAll_89 _ _ _ _ _ _ _ _ _ _ _ _ _ _ _ _ _ _ _) ?_
          have n_47 : (1 : Int32).toInt = 1 := by decide
          exact sf_X9_movesAll_94_ce (u_row := u_row) (u_col := u_col) (u_sR := u_sR) (u_sC := u_sC) (A := A) (B9 := B9) (a9 := a9) (b9 := b9) hN _ _ _ _ _ _ _ _ _ _ _ _ _ _ _ _ _ _ _ _ h_0 h_1 h_2 h_3 h_4 h_5 h_6 h_7 h_8 h_9 h_10 h_11 h_12 h_13 h_14 (by first | assumption | omega | decide) h_23 (by omega) (by omega) (by first | assumption | omega | decide) (by omega) (by omega) h_15 h_16 h_17 h_18 h_19 h_20 h_21 h_22 h_26 (by omega) (by omega) (by omega)
    ·
      have dc_26 := i_nle c_26
      refine wp_of (uf_X9_movesAll_24 _ _ _ _ _ _ _ _ _ _ _ _ _ _ _ _ _) ?_
      refine wp_ck (i_nz (by omega)) ?_
      generalize hz_z__49 : (mm_rem x3 (2 : Int32)) = z__49
      have e_50 := i_remL (c := 2) (by decide) (by decide) hz_z__49
      have n_51 : (0 : Int32).toInt = 0 := by decide
      refine wp_if (fun c_48 => ?_) (fun c_48 => ?_)
      ·
        have dc_48 := i_eq c_48
        refine wp_of (uf_X9_movesAll_37 _ _ _ _ _ _ _ _ _ _ _ _ _ _ _ _ _) ?_
        refine wp_ifn (by decide) ?_
        refine wp_ck (i_inb (by omega) (by omega)) ?_
        refine wp_of (uf_X9_movesAll_59 _ _ _ _ _ _ _ _ _ _ _ _ _ _ _ _ _ _) ?_
        refine wp_ifn (by decide) ?_
        refine wp_of (uf_X9_movesAll_89 _ _ _ _ _ _ _ _ _ _ _ _ _ _ _ _ _ _ _) ?_
        have n_52 : (1 : Int32).toInt = 1 := by decide
        exact sf_X9_movesAll_94_cs (u_row := u_row) (u_col := u_col) (u_sR := u_sR) (u_sC := u_sC) (A := A) (B9 := B9) (a9 := a9) (b9 := b9) hN _ _ _ _ _ _ _ _ _ _ _ _ _ _ _ _ _ _ _ _ h_0 h_1 h_2 h_3 h_4 h_5 h_6 h_7 h_8 h_9 h_10 h_11 h_12 h_13 h_14 (by first | assumption | omega | decide) h_23 (by omega) (by omega) (by first | assumption | omega | decide) (by omega) (by omega) h_15 h_16 h_17 h_18 h_19 h_20 h_21 h_22 h_26 (by omega) (by omega) (by omega)
      ·
        have dc_48 := i_ne c_48
        refine wp_of (uf_X9_movesAll_37 _ _ _ _ _ _ _ _ _ _ _ _ _ _ _ _ _) ?_
        refine wp_ifn (by decide) ?_
        refine wp_ck (i_inb (by omega) (by omega)) ?_
        refine wp_of (uf_X9_movesAll_59 _ _ _ _ _ _ _ _ _ _ _ _ _ _ _ _ _ _) ?_
        refine wp_ifn (by decide) ?_
        refine wp_of (uf_X9_movesAll_89 _ _ _ _ _ _ _ _ _ _ _ _ _ _ _ _ _ _ _) ?_
        have n_53 : (1 : Int32).toInt = 1 := by decide
        exact sf_X9_movesAll_94_cs (u_row := u_row) (u_col := u_col) (u_sR := u_sR) (u_sC := u_sC) (A := A) (B9 := B9) (a9 := a9) (b9 := b9) hN _ _ _ _ _ _ _ _ _ _ _ _ _ _ _ _ _ _ _ _ h_0 h_1 h_2 h_3 h_4 h_5 h_6 h_7 h_8 h_9 h_10 h_11 h_12 h_13 h_14 (by first | assumption | omega | decide) h_23 (by omega) (by omega) (by first | assumption | omega | decide) (by omega) (by omega) h_15 h_16 h_17 h_18 h_19 h_20 h_21 h_22 h_26 (by omega) (by omega) (by omega)

theorem uf_X9_foldsOn (N : Nat) (x1 : Int32) (x2 : Int32) (x3 : Int32) (v_rowsOf : Int32) (v_columnsOf : Int32) (v_textMany : Int32) (v_base : Int32) (v_at : Int32) (v_ends : Int32) (v_fault : Int32) (v_opened : Int32) (v_bentMany : Int32) (v_bentWrong : Int32) (v_moreWorn : Int32) (v_limit : List Int32) (v_shapeRows : List Int32) (v_shapeColumns : List Int32) (v_row : List Int32) (v_column : List Int32) (v_below : List Int32) (v_face : List Int32) (v_worn : List Int32) (v_lastBend : List Int32) (v_tape : List Int32) (v_text : List Int32) (v_names : List Int32) (v_bends : List Int32) (v_high : List Int32) (v_to : List Int32) (v_pileSize : List Int32) : fX9_foldsOn N x1 x2 x3 v_rowsOf v_columnsOf v_textMany v_base v_at v_ends v_fault v_opened v_bentMany v_bentWrong v_moreWorn v_limit v_shapeRows v_shapeColumns v_row v_column v_below v_face v_worn v_lastBend v_tape v_text v_names v_bends v_high v_to v_pileSize = mm_bd12 (fX9_bendsAll N x1 x2 x3 v_rowsOf v_columnsOf v_textMany v_base v_at v_ends v_fault v_opened v_bentMany v_bentWrong v_moreWorn v_limit v_row v_column v_face v_worn v_lastBend v_tape v_text v_names v_bends) (fun (w_1 : Int32) (w_2 : Int32) (w_3 : Int32) (w_4 : Int32) (w_5 : Int32) (w_6 : Int32) (w_7 : Int32) (w_8 : Int32) (w_9 : List Int32) (w_10 : List Int32) (w_11 : List Int32) (w_12 : List Int32) =>
    mm_bd9 (fX9_movesAll N x1 x2 x3 v_rowsOf v_columnsOf v_shapeRows v_shapeColumns v_row v_column v_below v_face v_high v_to v_pileSize) (fun (w_14 : List Int32) (w_15 : List Int32) (w_16 : List Int32) (w_17 : List Int32) (w_18 : List Int32) (w_19 : List Int32) (w_20 : List Int32) (w_21 : List Int32) (w_22 : List Int32) =>
    some (w_1, w_2, w_3, w_4, w_5, w_6, w_7, w_8, w_14, w_15, w_16, w_17, w_18, w_19, w_9, w_10, w_11, w_12, w_20, w_21, w_22))) := rfl

set_option maxHeartbeats 4000000 in
set_option maxRecDepth 20000 in
theorem sf_X9_foldsOn {N : Nat} (hN : 700 ≤ N) {u_row : List Int32} {u_col : List Int32} {u_sR : List Int32} {u_sC : List Int32} {A : Int} {B9 : Int} {a9 : Int} {b9 : Int} {x1 : Int32} {x2 : Int32} {x3 : Int32} {v_rowsOf : Int32} {v_columnsOf : Int32} {v_textMany : Int32} {v_base : Int32} {v_at : Int32} {v_ends : Int32} {v_fault : Int32} {v_opened : Int32} {v_bentMany : Int32} {v_bentWrong : Int32} {v_moreWorn : Int32} {v_limit : List Int32} {v_shapeRows : List Int32} {v_shapeColumns : List Int32} {v_row : List Int32} {v_column : List Int32} {v_below : List Int32} {v_face : List Int32} {v_worn : List Int32} {v_lastBend : List Int32} {v_tape : List Int32} {v_text : List Int32} {v_names : List Int32} {v_bends : List Int32} {v_high : List Int32} {v_to : List Int32} {v_pileSize : List Int32} (h_0 : 1 ≤ v_rowsOf.toInt) (h_1 : v_rowsOf.toInt ≤ 4) (h_2 : 1 ≤ v_columnsOf.toInt) (h_3 : v_columnsOf.toInt ≤ 8) (h_4 : -1 ≤ v_textMany.toInt) (h_5 : v_textMany.toInt ≤ 120) (h_6 : v_limit.length = 1) (h_7 : v_shapeRows.length = 6) (h_8 : v_shapeColumns.length = 6) (h_9 : v_row.length = 192) (h_10 : v_column.length = 192) (h_11 : v_below.length = 192) (h_12 : v_face.length = 192) (h_13 : v_worn.length = 384) (h_14 : v_lastBend.length = 384) (h_15 : v_tape.length = 120) (h_16 : v_text.length = 120) (h_17 : v_names.length = 6) (h_18 : v_bends.length = 64) (h_19 : v_high.length = 32) (h_20 : v_to.length = 32) (h_21 : v_pileSize.length = 64) (h_22 : 0 ≤ x1.toInt) (h_23 : x1.toInt ≤ 5) (h_24 : fr u_row v_row A B9) (h_25 : fr u_col v_column A B9) (h_26 : fr u_sR v_shapeRows a9 b9) (h_27 : fr u_sC v_shapeColumns a9 b9) (h_28 : A ≤ 32 * x1.toInt) (h_29 : 32 * x1.toInt + 32 ≤ B9) (h_30 : a9 ≤ x1.toInt) (h_31 : x1.toInt < b9) (h_32 : 1 ≤ x2.toInt) (h_33 : (x3.toInt < 4 → x2.toInt < (mm_ig v_shapeColumns x1).toInt)) (h_34 : (4 ≤ x3.toInt → x2.toInt < (mm_ig v_shapeRows x1).toInt)) (h_35 : lv9 v_rowsOf v_columnsOf v_shapeRows v_shapeColumns v_row v_column x1) : wp (fX9_foldsOn N x1 x2 x3 v_rowsOf v_columnsOf v_textMany v_base v_at v_ends v_fault v_opened v_bentMany v_bentWrong v_moreWorn v_limit v_shapeRows v_shapeColumns v_row v_column v_below v_face v_worn v_lastBend v_tape v_text v_names v_bends v_high v_to v_pileSize) (cu21 (fun (wv_base : Int32) (wv_at : Int32) (wv_ends : Int32) (wv_fault : Int32) (wv_opened : Int32) (wv_bentMany : Int32) (wv_bentWrong : Int32) (wv_moreWorn : Int32) (wv_shapeRows : List Int32) (wv_shapeColumns : List Int32) (wv_row : List Int32) (wv_column : List Int32) (wv_below : List Int32) (wv_face : List Int32) (wv_worn : List Int32) (wv_lastBend : List Int32) (wv_names : List Int32) (wv_bends : List Int32) (wv_high : List Int32) (wv_to : List Int32) (wv_pileSize : List Int32) => wv_shapeRows.length = 6 ∧ wv_shapeColumns.length = 6 ∧ wv_row.length = 192 ∧ wv_column.length = 192 ∧ wv_below.length = 192 ∧ wv_face.length = 192 ∧ wv_worn.length = 384 ∧ wv_lastBend.length = 384 ∧ wv_names.length = 6 ∧ wv_bends.length = 64 ∧ wv_high.length = 32 ∧ wv_to.length = 32 ∧ wv_pileSize.length = 64 ∧ fr u_row wv_row A B9 ∧ fr u_col wv_column A B9 ∧ fr u_sR wv_shapeRows a9 b9 ∧ fr u_sC wv_shapeColumns a9 b9 ∧ lv9 v_rowsOf v_columnsOf wv_shapeRows wv_shapeColumns wv_row wv_column x1)) := by
  have m3 := (i_fl (a := v_rowsOf) (b := v_columnsOf) (by omega) (by omega) (by omega) (by omega)).2
  refine wp_of (uf_X9_foldsOn _ _ _ _ _ _ _ _ _ _ _ _ _ _ _ _ _ _ _ _ _ _ _ _ _ _ _ _ _ _ _) ?_
  refine wp_bd12 (sf_X9_bendsAll hN h_0 h_1 h_2 h_3 h_4 h_5 h_6 h_9 h_10 h_12 h_13 h_14 h_15 h_16 h_17 h_18 h_22 h_23) (fun w_1 w_2 w_3 w_4 w_5 w_6 w_7 w_8 w_9 w_10 w_11 w_12 ⟨q_1, q_2, q_3, q_4⟩ => ?_)
  refine wp_bd9 (sf_X9_movesAll (u_row := u_row) (u_col := u_col) (u_sR := u_sR) (u_sC := u_sC) (A := A) (B9 := B9) (a9 := a9) (b9 := b9) hN h_0 h_1 h_2 h_3 h_7 h_8 h_9 h_10 h_11 h_12 h_19 h_20 h_21 h_22 h_23 h_24 h_25 h_26 h_27 h_28 h_29 h_30 h_31 h_32 h_33 h_34 h_35) (fun w_14 w_15 w_16 w_17 w_18 w_19 w_20 w_21 w_22 ⟨q_5, q_6, q_7, q_8, q_9, q_10, q_11, q_12, q_13, q_14, q_15, q_16, q_17, q_18⟩ => ?_)
  exact wp_so21 ⟨q_5, q_6, q_7, q_8, q_9, q_10, q_1, q_2, q_3, q_4, q_11, q_12, q_13, q_14, q_15, q_16, q_17, q_18⟩
end
section
/-! safe -/
theorem uf_X9_sizeAt_53 (N : Nat) (k_6 : Int32 → Int32 → Int32 → Int32 → Int32 → Int32 → Int32 → List Int32 → List Int32 → Option (Int32)) (x1 : Int32) (x2 : Int32) (x3 : Int32) (x5 : Int32) (s0 : Int32) (v_rowsOf : Int32) (v_columnsOf : Int32) (v_row : List Int32) (v_column : List Int32) : fX9_sizeAt_53 N k_6 x1 x2 x3 x5 s0 v_rowsOf v_columnsOf v_row v_column = fX9_sizeAt_54 N k_6 x1 x2 x3 x5 (0 : Int32) s0 v_rowsOf v_columnsOf v_row v_column := rfl

theorem uf_X9_sizeAt_54 (N : Nat) (k_6 : Int32 → Int32 → Int32 → Int32 → Int32 → Int32 → Int32 → List Int32 → List Int32 → Option (Int32)) (x1 : Int32) (x2 : Int32) (x3 : Int32) (x5 : Int32) (s0 : Int32) (s1 : Int32) (v_rowsOf : Int32) (v_columnsOf : Int32) (v_row : List Int32) (v_column : List Int32) : fX9_sizeAt_54 N k_6 x1 x2 x3 x5 s0 s1 v_rowsOf v_columnsOf v_row v_column = mm_nm ((s1 + s0)) (fun (y_8 : Int32) =>
    mm_nm (x5 + (1 : Int32)) (fun (y_9 : Int32) =>
    k_6 x1 x2 x3 y_8 y_9 v_rowsOf v_columnsOf v_row v_column)) := rfl

theorem uf_X9_sizeAt_6 (N : Nat) (n : Nat) (x1 : Int32) (x2 : Int32) (x3 : Int32) (x4 : Int32) (x5 : Int32) (v_rowsOf : Int32) (v_columnsOf : Int32) (v_row : List Int32) (v_column : List Int32) : fX9_sizeAt_6 N (n + 1) x1 x2 x3 x4 x5 v_rowsOf v_columnsOf v_row v_column = 
    mm_bd1 (fX9_fields N v_rowsOf v_columnsOf) (fun (r_1 : Int32) =>
    if r_1 ≤ x5 then
    (some (x4))
    else (mm_ck (mm_inb (((32 : Int32) * x1) + x5) v_row.length) (if (mm_ig v_row (((32 : Int32) * x1) + x5)) = x2 then
    (mm_ck (mm_inb (((32 : Int32) * x1) + x5) v_column.length) (if (mm_ig v_column (((32 : Int32) * x1) + x5)) = x3 then
    (fX9_sizeAt_54 N (fX9_sizeAt_6 N n) x1 x2 x3 x5 (1 : Int32) x4 v_rowsOf v_columnsOf v_row v_column)
    else (fX9_sizeAt_53 N (fX9_sizeAt_6 N n) x1 x2 x3 x5 x4 v_rowsOf v_columnsOf v_row v_column)))
    else (fX9_sizeAt_53 N (fX9_sizeAt_6 N n) x1 x2 x3 x5 x4 v_rowsOf v_columnsOf v_row v_column)))) := rfl

set_option maxHeartbeats 4000000 in
set_option maxRecDepth 20000 in
theorem sf_X9_sizeAt_6 {N : Nat} (hN : 700 ≤ N)  : ∀ (n : Nat) (x1 : Int32) (x2 : Int32) (x3 : Int32) (x4 : Int32) (x5 : Int32) (v_rowsOf : Int32) (v_columnsOf : Int32) (v_row : List Int32) (v_column : List Int32), 1 ≤ v_rowsOf.toInt → v_rowsOf.toInt ≤ 4 → 1 ≤ v_columnsOf.toInt → v_columnsOf.toInt ≤ 8 → v_row.length = 192 → v_column.length = 192 → 0 ≤ x1.toInt → x1.toInt ≤ 5 → 0 ≤ x5.toInt → x5.toInt ≤ v_rowsOf.toInt * v_columnsOf.toInt → (v_rowsOf.toInt * v_columnsOf.toInt - x5.toInt).toNat < n → wp (fX9_sizeAt_6 N n x1 x2 x3 x4 x5 v_rowsOf v_columnsOf v_row v_column) (fun (r : Int32) => True) := by
  intro n
  induction n with
  | zero =>
    intro x1 x2 x3 x4 x5 v_rowsOf v_columnsOf v_row v_column h_0 h_1 h_2 h_3 h_4 h_5 h_6 h_7 h_8 h_9 hm
    exact absurd hm (by omega)
  | succ n ih =>
    intro x1 x2 x3 x4 x5 v_rowsOf v_columnsOf v_row v_column h_0 h_1 h_2 h_3 h_4 h_5 h_6 h_7 h_8 h_9 hm
    have m3 := (i_fl (a := v_rowsOf) (b := v_columnsOf) (by omega) (by omega) (by omega) (by omega)).2
    refine wp_of (uf_X9_sizeAt_6 _ _ _ _ _ _ _ _ _ _ _) ?_
    refine wp_bd1 (sf_X9_fields hN h_0 h_1 h_2 h_3) (fun r_1 ⟨q_1, q_2, q_3⟩ => ?_)
    refine wp_if (fun c_4 => ?_) (fun c_4 => ?_)
    ·
      have dc_4 := i_le c_4
      exact wp_so1 trivial
    ·
      have dc_4 := i_nle c_4
      have n_5 : (32 : Int32).toInt = 32 := by decide
      generalize hz_z : ((32 : Int32) * x1) = z
      have e_6 := i_mulLE (c := 32) (by decide) hz_z (by omega) (by omega)
      generalize hz_z__7 : (z + x5) = z__7
      have e_8 := i_addE hz_z__7 (by omega) (by omega)
      refine wp_ck (i_inb (by omega) (by omega)) ?_
      refine wp_if (fun c_9 => ?_) (fun c_9 => ?_)
      ·
        have dc_9 := i_eq c_9
        refine wp_ck (i_inb (by omega) (by omega)) ?_
        refine wp_if (fun c_10 => ?_) (fun c_10 => ?_)
        ·
          have dc_10 := i_eq c_10
          refine wp_of (uf_X9_sizeAt_54 _ _ _ _ _ _ _ _ _ _ _ _) ?_
          refine wp_nm (fun y_8 _ => ?_)
          have n_11 : (1 : Int32).toInt = 1 := by decide
          refine wp_nm (fun y_9 h_y_9 => ?_)
          have e_12 := i_addE h_y_9.symm (by omega) (by omega)
          exact ih _ _ _ _ _ _ _ _ _ h_0 h_1 h_2 h_3 h_4 h_5 h_6 h_7 (by omega) (by omega) (by omega)
        ·
          have dc_10 := i_ne c_10
          refine wp_of (uf_X9_sizeAt_53 _ _ _ _ _ _ _ _ _ _ _) ?_
          refine wp_of (uf_X9_sizeAt_54 _ _ _ _ _ _ _ _ _ _ _ _) ?_
          refine wp_nm (fun y_8__13 _ => ?_)
          have n_15 : (1 : Int32).toInt = 1 := by decide
          refine wp_nm (fun y_9__14 h_y_9__14 => ?_)
          have e_16 := i_addE h_y_9__14.symm (by omega) (by omega)
          exact ih _ _ _ _ _ _ _ _ _ h_0 h_1 h_2 h_3 h_4 h_5 h_6 h_7 (by omega) (by omega) (by omega)
      ·
        have dc_9 := i_ne c_9
        refine wp_of (uf_X9_sizeAt_53 _ _ _ _ _ _ _ _ _ _ _) ?_
        refine wp_of (uf_X9_sizeAt_54 _ _ _ _ _ _ _ _ _ _ _ _) ?_
        refine wp_nm (fun y_8__17 _ => ?_)
        have n_19 : (1 : Int32).toInt = 1 := by decide
        refine wp_nm (fun y_9__18 h_y_9__18 => ?_)
        have e_20 := i_addE h_y_9__18.symm (by omega) (by omega)
        exact ih _ _ _ _ _ _ _ _ _ h_0 h_1 h_2 h_3 h_4 h_5 h_6 h_7 (by omega) (by omega) (by omega)

theorem uf_X9_sizeAt (N : Nat) (x1 : Int32) (x2 : Int32) (x3 : Int32) (v_rowsOf : Int32) (v_columnsOf : Int32) (v_row : List Int32) (v_column : List Int32) : fX9_sizeAt N x1 x2 x3 v_rowsOf v_columnsOf v_row v_column = fX9_sizeAt_6 N N x1 x2 x3 (0 : Int32) (0 : Int32) v_rowsOf v_columnsOf v_row v_column := rfl

set_option maxHeartbeats 4000000 in
set_option maxRecDepth 20000 in
theorem sf_X9_sizeAt {N : Nat} (hN : 700 ≤ N) {x1 : Int32} {x2 : Int32} {x3 : Int32} {v_rowsOf : Int32} {v_columnsOf : Int32} {v_row : List Int32} {v_column : List Int32} (h_0 : 1 ≤ v_rowsOf.toInt) (h_1 : v_rowsOf.toInt ≤ 4) (h_2 : 1 ≤ v_columnsOf.toInt) (h_3 : v_columnsOf.toInt ≤ 8) (h_4 : v_row.length = 192) (h_5 : v_column.length = 192) (h_6 : 0 ≤ x1.toInt) (h_7 : x1.toInt ≤ 5) : wp (fX9_sizeAt N x1 x2 x3 v_rowsOf v_columnsOf v_row v_column) (fun (r : Int32) => True) := by
  have m3 := (i_fl (a := v_rowsOf) (b := v_columnsOf) (by omega) (by omega) (by omega) (by omega)).2
  refine wp_of (uf_X9_sizeAt _ _ _ _ _ _ _ _) ?_
  have n_1 : (0 : Int32).toInt = 0 := by decide
  exact sf_X9_sizeAt_6 hN _ _ _ _ _ _ _ _ _ _ h_0 h_1 h_2 h_3 h_4 h_5 h_6 h_7 (by omega) (by omega) (by omega)

theorem uf_X9_fieldAt_3 (N : Nat) (n : Nat) (x1 : Int32) (x2 : Int32) (x3 : Int32) (x4 : Int32) (x5 : Int32) (v_rowsOf : Int32) (v_columnsOf : Int32) (v_row : List Int32) (v_column : List Int32) (v_below : List Int32) : fX9_fieldAt_3 N (n + 1) x1 x2 x3 x4 x5 v_rowsOf v_columnsOf v_row v_column v_below = 
    mm_bd1 (fX9_fields N v_rowsOf v_columnsOf) (fun (r_1 : Int32) =>
    if r_1 ≤ x5 then
    (some ((-1 : Int32)))
    else (mm_nm ((((32 : Int32) * x1) + x5)) (fun (y_4 : Int32) =>
    mm_ck (mm_inb y_4 v_row.length) (if (mm_ig v_row y_4) = x2 then
    (mm_ck (mm_inb y_4 v_column.length) (if (mm_ig v_column y_4) = x3 then
    (mm_ck (mm_inb y_4 v_below.length) (if (mm_ig v_below y_4) = x4 then
    (some (x5))
    else (fX9_fieldAt_58 N (fX9_fieldAt_3 N n) x1 x2 x3 x4 x5 v_rowsOf v_columnsOf v_row v_column v_below)))
    else (fX9_fieldAt_58 N (fX9_fieldAt_3 N n) x1 x2 x3 x4 x5 v_rowsOf v_columnsOf v_row v_column v_below)))
    else (fX9_fieldAt_58 N (fX9_fieldAt_3 N n) x1 x2 x3 x4 x5 v_rowsOf v_columnsOf v_row v_column v_below))))) := rfl

theorem uf_X9_fieldAt_58 (N : Nat) (k_3 : Int32 → Int32 → Int32 → Int32 → Int32 → Int32 → Int32 → List Int32 → List Int32 → List Int32 → Option (Int32)) (x1 : Int32) (x2 : Int32) (x3 : Int32) (x4 : Int32) (x5 : Int32) (v_rowsOf : Int32) (v_columnsOf : Int32) (v_row : List Int32) (v_column : List Int32) (v_below : List Int32) : fX9_fieldAt_58 N k_3 x1 x2 x3 x4 x5 v_rowsOf v_columnsOf v_row v_column v_below = mm_nm (x5 + (1 : Int32)) (fun (y_11 : Int32) =>
    k_3 x1 x2 x3 x4 y_11 v_rowsOf v_columnsOf v_row v_column v_below) := rfl

set_option maxHeartbeats 4000000 in
set_option maxRecDepth 20000 in
theorem sf_X9_fieldAt_3 {N : Nat} (hN : 700 ≤ N)  : ∀ (n : Nat) (x1 : Int32) (x2 : Int32) (x3 : Int32) (x4 : Int32) (x5 : Int32) (v_rowsOf : Int32) (v_columnsOf : Int32) (v_row : List Int32) (v_column : List Int32) (v_below : List Int32), 1 ≤ v_rowsOf.toInt → v_rowsOf.toInt ≤ 4 → 1 ≤ v_columnsOf.toInt → v_columnsOf.toInt ≤ 8 → v_row.length = 192 → v_column.length = 192 → v_below.length = 192 → 0 ≤ x1.toInt → x1.toInt ≤ 5 → 0 ≤ x5.toInt → x5.toInt ≤ v_rowsOf.toInt * v_columnsOf.toInt → (v_rowsOf.toInt * v_columnsOf.toInt - x5.toInt).toNat < n → wp (fX9_fieldAt_3 N n x1 x2 x3 x4 x5 v_rowsOf v_columnsOf v_row v_column v_below) (fun (r : Int32) => True) := by
  intro n
  induction n with
  | zero =>
    intro x1 x2 x3 x4 x5 v_rowsOf v_columnsOf v_row v_column v_below h_0 h_1 h_2 h_3 h_4 h_5 h_6 h_7 h_8 h_9 h_10 hm
    exact absurd hm (by omega)
  | succ n ih =>
    intro x1 x2 x3 x4 x5 v_rowsOf v_columnsOf v_row v_column v_below h_0 h_1 h_2 h_3 h_4 h_5 h_6 h_7 h_8 h_9 h_10 hm
    have m3 := (i_fl (a := v_rowsOf) (b := v_columnsOf) (by omega) (by omega) (by omega) (by omega)).2
    refine wp_of (uf_X9_fieldAt_3 _ _ _ _ _ _ _ _ _ _ _ _) ?_
    refine wp_bd1 (sf_X9_fields hN h_0 h_1 h_2 h_3) (fun r_1 ⟨q_1, q_2, q_3⟩ => ?_)
    refine wp_if (fun c_4 => ?_) (fun c_4 => ?_)
    ·
      have dc_4 := i_le c_4
      exact wp_so1 trivial
    ·
      have dc_4 := i_nle c_4
      have n_5 : (32 : Int32).toInt = 32 := by decide
      generalize hz_z : ((32 : Int32) * x1) = z
      have e_6 := i_mulLE (c := 32) (by decide) hz_z (by omega) (by omega)
      refine wp_nm (fun y_4 h_y_4 => ?_)
      have e_7 := i_addE h_y_4.symm (by omega) (by omega)
      refine wp_ck (i_inb (by omega) (by omega)) ?_
      refine wp_if (fun c_8 => ?_) (fun c_8 => ?_)
      ·
        have dc_8 := i_eq c_8
        refine wp_ck (i_inb (by omega) (by omega)) ?_
        refine wp_if (fun c_9 => ?_) (fun c_9 => ?_)
        ·
          have dc_9 := i_eq c_9
          refine wp_ck (i_inb (by omega) (by omega)) ?_
          refine wp_if (fun c_10 => ?_) (fun c_10 => ?_)
          ·
            have dc_10 := i_eq c_10
            exact wp_so1 trivial
          ·
            have dc_10 := i_ne c_10
            refine wp_of (uf_X9_fieldAt_58 _ _ _ _ _ _ _ _ _ _ _ _) ?_
            have n_11 : (1 : Int32).toInt = 1 := by decide
            refine wp_nm (fun y_11 h_y_11 => ?_)
            have e_12 := i_addE h_y_11.symm (by omega) (by omega)
            exact ih _ _ _ _ _ _ _ _ _ _ h_0 h_1 h_2 h_3 h_4 h_5 h_6 h_7 h_8 (by omega) (by omega) (by omega)
        ·
          have dc_9 := i_ne c_9
          refine wp_of (uf_X9_fieldAt_58 _ _ _ _ _ _ _ _ _ _ _ _) ?_
          have n_14 : (1 : Int32).toInt = 1 := by decide
          refine wp_nm (fun y_11__13 h_y_11__13 => ?_)
          have e_15 := i_addE h_y_11__13.symm (by omega) (by omega)
          exact ih _ _ _ _ _ _ _ _ _ _ h_0 h_1 h_2 h_3 h_4 h_5 h_6 h_7 h_8 (by omega) (by omega) (by omega)
      ·
        have dc_8 := i_ne c_8
        refine wp_of (uf_X9_fieldAt_58 _ _ _ _ _ _ _ _ _ _ _ _) ?_
        have n_17 : (1 : Int32).toInt = 1 := by decide
        refine wp_nm (fun y_11__16 h_y_11__16 => ?_)
        have e_18 := i_addE h_y_11__16.symm (by omega) (by omega)
        exact ih _ _ _ _ _ _ _ _ _ _ h_0 h_1 h_2 h_3 h_4 h_5 h_6 h_7 h_8 (by omega) (by omega) (by omega)

theorem uf_X9_fieldAt (N : Nat) (x1 : Int32) (x2 : Int32) (x3 : Int32) (x4 : Int32) (v_rowsOf : Int32) (v_columnsOf : Int32) (v_row : List Int32) (v_column : List Int32) (v_below : List Int32) : fX9_fieldAt N x1 x2 x3 x4 v_rowsOf v_columnsOf v_row v_column v_below = fX9_fieldAt_3 N N x1 x2 x3 x4 (0 : Int32) v_rowsOf v_columnsOf v_row v_column v_below := rfl

set_option maxHeartbeats 4000000 in
set_option maxRecDepth 20000 in
theorem sf_X9_fieldAt {N : Nat} (hN : 700 ≤ N) {x1 : Int32} {x2 : Int32} {x3 : Int32} {x4 : Int32} {v_rowsOf : Int32} {v_columnsOf : Int32} {v_row : List Int32} {v_column : List Int32} {v_below : List Int32} (h_0 : 1 ≤ v_rowsOf.toInt) (h_1 : v_rowsOf.toInt ≤ 4) (h_2 : 1 ≤ v_columnsOf.toInt) (h_3 : v_columnsOf.toInt ≤ 8) (h_4 : v_row.length = 192) (h_5 : v_column.length = 192) (h_6 : v_below.length = 192) (h_7 : 0 ≤ x1.toInt) (h_8 : x1.toInt ≤ 5) : wp (fX9_fieldAt N x1 x2 x3 x4 v_rowsOf v_columnsOf v_row v_column v_below) (fun (r : Int32) => True) := by
  have m3 := (i_fl (a := v_rowsOf) (b := v_columnsOf) (by omega) (by omega) (by omega) (by omega)).2
  refine wp_of (uf_X9_fieldAt _ _ _ _ _ _ _ _ _ _) ?_
  have n_1 : (0 : Int32).toInt = 0 := by decide
  exact sf_X9_fieldAt_3 hN _ _ _ _ _ _ _ _ _ _ _ h_0 h_1 h_2 h_3 h_4 h_5 h_6 h_7 h_8 (by omega) (by omega) (by omega)

theorem uf_X9_shape_36 (N : Nat) (k_4 : Int32 → Int32 → Int32 → Int32 → Int32 → List Int32 → List Int32 → List Int32 → Option (Int32)) (x1 : Int32) (x3 : Int32) (s0 : Int32) (v_rowsOf : Int32) (v_columnsOf : Int32) (v_shapeRows : List Int32) (v_shapeColumns : List Int32) (v_below : List Int32) : fX9_shape_36 N k_4 x1 x3 s0 v_rowsOf v_columnsOf v_shapeRows v_shapeColumns v_below = mm_nm (x3 + (1 : Int32)) (fun (y_12 : Int32) =>
    k_4 x1 s0 y_12 v_rowsOf v_columnsOf v_shapeRows v_shapeColumns v_below) := rfl

theorem uf_X9_shape_4 (N : Nat) (n : Nat) (x1 : Int32) (x2 : Int32) (x3 : Int32) (v_rowsOf : Int32) (v_columnsOf : Int32) (v_shapeRows : List Int32) (v_shapeColumns : List Int32) (v_below : List Int32) : fX9_shape_4 N (n + 1) x1 x2 x3 v_rowsOf v_columnsOf v_shapeRows v_shapeColumns v_below = 
    mm_bd1 (fX9_fields N v_rowsOf v_columnsOf) (fun (r_1 : Int32) =>
    if r_1 ≤ x3 then
    (if x1 = 0 then
    (mm_ck (mm_inb (0 : Int32) v_shapeRows.length) (some ((mm_ig v_shapeRows (0 : Int32)))))
    else (if x1 = (1 : Int32) then
    (mm_ck (mm_inb (0 : Int32) v_shapeColumns.length) (some ((mm_ig v_shapeColumns (0 : Int32)))))
    else (if x1 = (2 : Int32) then
    (some (x2))
    else (some ((-1 : Int32))))))
    else (mm_ck (mm_inb x3 v_below.length) (if ((mm_ig v_below x3) + (1 : Int32)) ≤ x2 then
    (fX9_shape_36 N (fX9_shape_4 N n) x1 x3 x2 v_rowsOf v_columnsOf v_shapeRows v_shapeColumns v_below)
    else (mm_ck (mm_inb x3 v_below.length) (fX9_shape_36 N (fX9_shape_4 N n) x1 x3 ((mm_ig v_below x3) + (1 : Int32)) v_rowsOf v_columnsOf v_shapeRows v_shapeColumns v_below))))) := rfl

set_option maxHeartbeats 4000000 in
set_option maxRecDepth 20000 in
theorem sf_X9_shape_4 {N : Nat} (hN : 700 ≤ N)  : ∀ (n : Nat) (x1 : Int32) (x2 : Int32) (x3 : Int32) (v_rowsOf : Int32) (v_columnsOf : Int32) (v_shapeRows : List Int32) (v_shapeColumns : List Int32) (v_below : List Int32), 1 ≤ v_rowsOf.toInt → v_rowsOf.toInt ≤ 4 → 1 ≤ v_columnsOf.toInt → v_columnsOf.toInt ≤ 8 → v_shapeRows.length = 6 → v_shapeColumns.length = 6 → v_below.length = 192 → 0 ≤ x3.toInt → x3.toInt ≤ v_rowsOf.toInt * v_columnsOf.toInt → (v_rowsOf.toInt * v_columnsOf.toInt - x3.toInt).toNat < n → wp (fX9_shape_4 N n x1 x2 x3 v_rowsOf v_columnsOf v_shapeRows v_shapeColumns v_below) (fun (r : Int32) => True) := by
  intro n
  induction n with
  | zero =>
    intro x1 x2 x3 v_rowsOf v_columnsOf v_shapeRows v_shapeColumns v_below h_0 h_1 h_2 h_3 h_4 h_5 h_6 h_7 h_8 hm
    exact absurd hm (by omega)
  | succ n ih =>
    intro x1 x2 x3 v_rowsOf v_columnsOf v_shapeRows v_shapeColumns v_below h_0 h_1 h_2 h_3 h_4 h_5 h_6 h_7 h_8 hm
    have m3 := (i_fl (a := v_rowsOf) (b := v_columnsOf) (by omega) (by omega) (by omega) (by omega)).2
    refine wp_of (uf_X9_shape_4 _ _ _ _ _ _ _ _ _ _) ?_
    refine wp_bd1 (sf_X9_fields hN h_0 h_1 h_2 h_3) (fun r_1 ⟨q_1, q_2, q_3⟩ => ?_)
    refine wp_if (fun c_4 => ?_) (fun c_4 => ?_)
    ·
      have dc_4 := i_le c_4
      have n_6 : (0 : Int32).toInt = 0 := by decide
      refine wp_if (fun c_5 => ?_) (fun c_5 => ?_)
      ·
        have dc_5 := i_eq c_5
        refine wp_ck (i_inb (by omega) (by omega)) ?_
        exact wp_so1 trivial
      ·
        have dc_5 := i_ne c_5
        have n_8 : (1 : Int32).toInt = 1 := by decide
        refine wp_if (fun c_7 => ?_) (fun c_7 => ?_)
        ·
          have dc_7 := i_eq c_7
          refine wp_ck (i_inb (by omega) (by omega)) ?_
          exact wp_so1 trivial
        ·
          have dc_7 := i_ne c_7
          have n_10 : (2 : Int32).toInt = 2 := by decide
          refine wp_if (fun c_9 => ?_) (fun c_9 => ?_)
          ·
            have dc_9 := i_eq c_9
            exact wp_so1 trivial
          ·
            have dc_9 := i_ne c_9
            exact wp_so1 trivial
    ·
      have dc_4 := i_nle c_4
      refine wp_ck (i_inb (by omega) (by omega)) ?_
      have n_12 : (1 : Int32).toInt = 1 := by decide
      generalize hz_z : ((mm_ig v_below x3) + (1 : Int32)) = z
      first | have e_13 := i_addE hz_z (by omega) (by omega) | obtain ⟨k_13, e_13, e1_13, e2_13⟩ := i_addY hz_z
      refine wp_if (fun c_11 => ?_) (fun c_11 => ?_)
      ·
        have dc_11 := i_le c_11
        refine wp_of (uf_X9_shape_36 _ _ _ _ _ _ _ _ _ _) ?_
        refine wp_nm (fun y_12 h_y_12 => ?_)
        have e_14 := i_addE h_y_12.symm (by omega) (by omega)
        exact ih _ _ _ _ _ _ _ _ h_0 h_1 h_2 h_3 h_4 h_5 h_6 (by omega) (by omega) (by omega)
      ·
        have dc_11 := i_nle c_11
        refine wp_ck (i_inb (by omega) (by omega)) ?_
        refine wp_of (uf_X9_shape_36 _ _ _ _ _ _ _ _ _ _) ?_
        refine wp_nm (fun y_12__15 h_y_12__15 => ?_)
        have e_16 := i_addE h_y_12__15.symm (by omega) (by omega)
        exact ih _ _ _ _ _ _ _ _ h_0 h_1 h_2 h_3 h_4 h_5 h_6 (by omega) (by omega) (by omega)

theorem uf_X9_shape (N : Nat) (x1 : Int32) (v_rowsOf : Int32) (v_columnsOf : Int32) (v_shapeRows : List Int32) (v_shapeColumns : List Int32) (v_below : List Int32) : fX9_shape N x1 v_rowsOf v_columnsOf v_shapeRows v_shapeColumns v_below = fX9_shape_4 N N x1 (0 : Int32) (0 : Int32) v_rowsOf v_columnsOf v_shapeRows v_shapeColumns v_below := rfl

set_option maxHeartbeats 4000000 in
set_option maxRecDepth 20000 in
theorem sf_X9_shape {N : Nat} (hN : 700 ≤ N) {x1 : Int32} {v_rowsOf : Int32} {v_columnsOf : Int32} {v_shapeRows : List Int32} {v_shapeColumns : List Int32} {v_below : List Int32} (h_0 : 1 ≤ v_rowsOf.toInt) (h_1 : v_rowsOf.toInt ≤ 4) (h_2 : 1 ≤ v_columnsOf.toInt) (h_3 : v_columnsOf.toInt ≤ 8) (h_4 : v_shapeRows.length = 6) (h_5 : v_shapeColumns.length = 6) (h_6 : v_below.length = 192) : wp (fX9_shape N x1 v_rowsOf v_columnsOf v_shapeRows v_shapeColumns v_below) (fun (r : Int32) => True) := by
  have m3 := (i_fl (a := v_rowsOf) (b := v_columnsOf) (by omega) (by omega) (by omega) (by omega)).2
  refine wp_of (uf_X9_shape _ _ _ _ _ _ _) ?_
  have n_1 : (0 : Int32).toInt = 0 := by decide
  exact sf_X9_shape_4 hN _ _ _ _ _ _ _ _ _ h_0 h_1 h_2 h_3 h_4 h_5 h_6 (by omega) (by omega) (by omega)

theorem uf_X9_isField (N : Nat) (x1 : Int32) (v_rowsOf : Int32) (v_columnsOf : Int32) : fX9_isField N x1 v_rowsOf v_columnsOf = mm_bd1 (fX9_fields N v_rowsOf v_columnsOf) (fun (r_1 : Int32) =>
    mm_bd1 (fX9_within N ((x1).toInt64) (0 : Int64) ((r_1 - (1 : Int32)).toInt64)) (fun (r_3 : Bool) =>
    some (r_3))) := rfl

set_option maxHeartbeats 4000000 in
set_option maxRecDepth 20000 in
theorem sf_X9_isField {N : Nat} (hN : 700 ≤ N) {x1 : Int32} {v_rowsOf : Int32} {v_columnsOf : Int32} (h_0 : 1 ≤ v_rowsOf.toInt) (h_1 : v_rowsOf.toInt ≤ 4) (h_2 : 1 ≤ v_columnsOf.toInt) (h_3 : v_columnsOf.toInt ≤ 8) : wp (fX9_isField N x1 v_rowsOf v_columnsOf) (fun (r : Bool) => ((r = true ∧ 0 ≤ x1.toInt ∧ x1.toInt < v_rowsOf.toInt * v_columnsOf.toInt) ∨ (r = false ∧ True))) := by
  refine wp_of (uf_X9_isField _ _ _ _) ?_
  refine wp_bd1 (sf_X9_fields hN h_0 h_1 h_2 h_3) (fun r_1 ⟨q_1, q_2, q_3⟩ => ?_)
  have n_4 := i_64 x1
  have n_5 : (0 : Int64).toInt = 0 := by decide
  have n_6 : (1 : Int32).toInt = 1 := by decide
  generalize hz_z : (r_1 - (1 : Int32)) = z
  have e_7 := i_subE hz_z (by omega) (by omega)
  have n_8 := i_64 z
  refine wp_bd1 (sf_X9_within hN ) (fun r_3 q_9 => ?_)
  rcases q_9 with ⟨rfl, q_9⟩ | ⟨rfl, q_9⟩
  ·
    exact wp_so1 (by first | exact Or.inl ⟨rfl, by first | trivial | omega⟩ | exact Or.inr ⟨rfl, by first | trivial | omega⟩)
  ·
    exact wp_so1 (by first | exact Or.inl ⟨rfl, by first | trivial | omega⟩ | exact Or.inr ⟨rfl, by first | trivial | omega⟩)

theorem uf_X9_whereOf (N : Nat) (x1 : Int32) (x2 : Int32) (x3 : Int32) (v_row : List Int32) (v_column : List Int32) (v_below : List Int32) (v_face : List Int32) : fX9_whereOf N x1 x2 x3 v_row v_column v_below v_face = mm_nm ((((32 : Int32) * x1) + x2)) (fun (y_1 : Int32) =>
    if x3 = 0 then
    (mm_ck (mm_inb y_1 v_row.length) (some ((mm_ig v_row y_1))))
    else (if x3 = (1 : Int32) then
    (mm_ck (mm_inb y_1 v_column.length) (some ((mm_ig v_column y_1))))
    else (if x3 = (2 : Int32) then
    (mm_ck (mm_inb y_1 v_below.length) (some ((mm_ig v_below y_1))))
    else (mm_ck (mm_inb y_1 v_face.length) (some ((mm_ig v_face y_1))))))) := rfl

set_option maxHeartbeats 4000000 in
set_option maxRecDepth 20000 in
theorem sf_X9_whereOf {N : Nat} (hN : 700 ≤ N) {x1 : Int32} {x2 : Int32} {x3 : Int32} {v_row : List Int32} {v_column : List Int32} {v_below : List Int32} {v_face : List Int32} (h_0 : v_row.length = 192) (h_1 : v_column.length = 192) (h_2 : v_below.length = 192) (h_3 : v_face.length = 192) (h_4 : 0 ≤ x1.toInt) (h_5 : x1.toInt ≤ 5) (h_6 : 0 ≤ x2.toInt) (h_7 : x2.toInt < 32) : wp (fX9_whereOf N x1 x2 x3 v_row v_column v_below v_face) (fun (r : Int32) => True) := by
  refine wp_of (uf_X9_whereOf _ _ _ _ _ _ _ _) ?_
  have n_1 : (32 : Int32).toInt = 32 := by decide
  generalize hz_z : ((32 : Int32) * x1) = z
  have e_2 := i_mulLE (c := 32) (by decide) hz_z (by omega) (by omega)
  refine wp_nm (fun y_1 h_y_1 => ?_)
  have e_3 := i_addE h_y_1.symm (by omega) (by omega)
  have n_5 : (0 : Int32).toInt = 0 := by decide
  refine wp_if (fun c_4 => ?_) (fun c_4 => ?_)
  ·
    have dc_4 := i_eq c_4
    refine wp_ck (i_inb (by omega) (by omega)) ?_
    exact wp_so1 trivial
  ·
    have dc_4 := i_ne c_4
    have n_7 : (1 : Int32).toInt = 1 := by decide
    refine wp_if (fun c_6 => ?_) (fun c_6 => ?_)
    ·
      have dc_6 := i_eq c_6
      refine wp_ck (i_inb (by omega) (by omega)) ?_
      exact wp_so1 trivial
    ·
      have dc_6 := i_ne c_6
      have n_9 : (2 : Int32).toInt = 2 := by decide
      refine wp_if (fun c_8 => ?_) (fun c_8 => ?_)
      ·
        have dc_8 := i_eq c_8
        refine wp_ck (i_inb (by omega) (by omega)) ?_
        exact wp_so1 trivial
      ·
        have dc_8 := i_ne c_8
        refine wp_ck (i_inb (by omega) (by omega)) ?_
        exact wp_so1 trivial

theorem uf_X9_where (N : Nat) (x1 : Int32) (x2 : Int32) (v_rowsOf : Int32) (v_columnsOf : Int32) (v_row : List Int32) (v_column : List Int32) (v_below : List Int32) (v_face : List Int32) : fX9_where N x1 x2 v_rowsOf v_columnsOf v_row v_column v_below v_face = mm_bd1 (fX9_isField N x1 v_rowsOf v_columnsOf) (fun (r_1 : Bool) =>
    if r_1 = false then
    (some ((-1 : Int32)))
    else (mm_bd1 (fX9_within N ((x2).toInt64) (0 : Int64) (3 : Int64)) (fun (r_4 : Bool) =>
    if r_4 = false then
    (some ((-1 : Int32)))
    else (mm_bd1 (fX9_whereOf N (0 : Int32) x1 x2 v_row v_column v_below v_face) (fun (r_7 : Int32) =>
    some (r_7)))))) := rfl

set_option maxHeartbeats 4000000 in
set_option maxRecDepth 20000 in
theorem sf_X9_where {N : Nat} (hN : 700 ≤ N) {x1 : Int32} {x2 : Int32} {v_rowsOf : Int32} {v_columnsOf : Int32} {v_row : List Int32} {v_column : List Int32} {v_below : List Int32} {v_face : List Int32} (h_0 : 1 ≤ v_rowsOf.toInt) (h_1 : v_rowsOf.toInt ≤ 4) (h_2 : 1 ≤ v_columnsOf.toInt) (h_3 : v_columnsOf.toInt ≤ 8) (h_4 : v_row.length = 192) (h_5 : v_column.length = 192) (h_6 : v_below.length = 192) (h_7 : v_face.length = 192) : wp (fX9_where N x1 x2 v_rowsOf v_columnsOf v_row v_column v_below v_face) (fun (r : Int32) => True) := by
  have m3 := (i_fl (a := v_rowsOf) (b := v_columnsOf) (by omega) (by omega) (by omega) (by omega)).2
  refine wp_of (uf_X9_where _ _ _ _ _ _ _ _ _) ?_
  refine wp_bd1 (sf_X9_isField hN h_0 h_1 h_2 h_3) (fun r_1 q_1 => ?_)
  rcases q_1 with ⟨rfl, q_1⟩ | ⟨rfl, q_1⟩
  ·
    refine wp_ifn (by decide) ?_
    have n_2 := i_64 x2
    have n_3 : (0 : Int64).toInt = 0 := by decide
    have n_4 : (3 : Int64).toInt = 3 := by decide
    refine wp_bd1 (sf_X9_within hN ) (fun r_4 q_5 => ?_)
    rcases q_5 with ⟨rfl, q_5⟩ | ⟨rfl, q_5⟩
    ·
      refine wp_ifn (by decide) ?_
      have n_6 : (0 : Int32).toInt = 0 := by decide
      refine wp_bd1 (sf_X9_whereOf hN h_4 h_5 h_6 h_7 (by omega) (by omega) (by omega) (by omega)) (fun r_7 _ => ?_)
      exact wp_so1 trivial
    ·
      refine wp_ifp (by decide) ?_
      exact wp_so1 trivial
  ·
    refine wp_ifp (by decide) ?_
    exact wp_so1 trivial

theorem uf_X9_isPile (N : Nat) (x1 : Int32) (x2 : Int32) (v_shapeRows : List Int32) (v_shapeColumns : List Int32) : fX9_isPile N x1 x2 v_shapeRows v_shapeColumns = if x2 < 0 then
    (some (false))
    else (mm_ck (mm_nz (10 : Int32)) (mm_ck (mm_inb x1 v_shapeRows.length) (if (mm_ig v_shapeRows x1) ≤ (x2 / (10 : Int32)) then
    (some (false))
    else (mm_ck (mm_nz (10 : Int32)) (mm_ck (mm_inb x1 v_shapeColumns.length) (if (mm_ig v_shapeColumns x1) ≤ (mm_rem x2 (10 : Int32)) then
    (some (false))
    else (some (true)))))))) := rfl

set_option maxHeartbeats 4000000 in
set_option maxRecDepth 20000 in
theorem sf_X9_isPile {N : Nat} (hN : 700 ≤ N) {x1 : Int32} {x2 : Int32} {v_shapeRows : List Int32} {v_shapeColumns : List Int32} (h_0 : v_shapeRows.length = 6) (h_1 : v_shapeColumns.length = 6) (h_2 : 0 ≤ x1.toInt) (h_3 : x1.toInt ≤ 5) : wp (fX9_isPile N x1 x2 v_shapeRows v_shapeColumns) (fun (r : Bool) => True) := by
  refine wp_of (uf_X9_isPile _ _ _ _ _) ?_
  have n_2 : (0 : Int32).toInt = 0 := by decide
  refine wp_if (fun c_1 => ?_) (fun c_1 => ?_)
  ·
    have dc_1 := i_lt c_1
    exact wp_so1 trivial
  ·
    have dc_1 := i_nlt c_1
    have n_3 : (10 : Int32).toInt = 10 := by decide
    refine wp_ck (i_nz (by omega)) ?_
    refine wp_ck (i_inb (by omega) (by omega)) ?_
    generalize hz_z : (x2 / (10 : Int32)) = z
    have e_5 := i_divL (c := 10) (by decide) (by decide) hz_z
    refine wp_if (fun c_4 => ?_) (fun c_4 => ?_)
    ·
      have dc_4 := i_le c_4
      exact wp_so1 trivial
    ·
      have dc_4 := i_nle c_4
      refine wp_ck (i_nz (by omega)) ?_
      refine wp_ck (i_inb (by omega) (by omega)) ?_
      generalize hz_z__7 : (mm_rem x2 (10 : Int32)) = z__7
      have e_8 := i_remL (c := 10) (by decide) (by decide) hz_z__7
      refine wp_if (fun c_6 => ?_) (fun c_6 => ?_)
      ·
        have dc_6 := i_le c_6
        exact wp_so1 trivial
      ·
        have dc_6 := i_nle c_6
        exact wp_so1 trivial

theorem uf_X9_pile (N : Nat) (x1 : Int32) (x2 : Int32) (v_rowsOf : Int32) (v_columnsOf : Int32) (v_shapeRows : List Int32) (v_shapeColumns : List Int32) (v_row : List Int32) (v_column : List Int32) (v_below : List Int32) : fX9_pile N x1 x2 v_rowsOf v_columnsOf v_shapeRows v_shapeColumns v_row v_column v_below = mm_bd1 (fX9_isPile N (0 : Int32) x1 v_shapeRows v_shapeColumns) (fun (r_1 : Bool) =>
    if r_1 = false then
    (some ((-1 : Int32)))
    else (mm_ck (mm_nz (10 : Int32)) (mm_ck (mm_nz (10 : Int32)) (mm_bd1 (fX9_sizeAt N (0 : Int32) (x1 / (10 : Int32)) (mm_rem x1 (10 : Int32)) v_rowsOf v_columnsOf v_row v_column) (fun (r_6 : Int32) =>
    if x2 = (-2 : Int32) then
    (some (r_6))
    else (if x2 = (-1 : Int32) then
    (fX9_pile_45 N x1 r_6 (r_6 - (1 : Int32)) v_rowsOf v_columnsOf v_shapeRows v_shapeColumns v_row v_column v_below)
    else (fX9_pile_45 N x1 r_6 x2 v_rowsOf v_columnsOf v_shapeRows v_shapeColumns v_row v_column v_below))))))) := rfl

theorem uf_X9_pile_45 (N : Nat) (x1 : Int32) (x3 : Int32) (s0 : Int32) (v_rowsOf : Int32) (v_columnsOf : Int32) (v_shapeRows : List Int32) (v_shapeColumns : List Int32) (v_row : List Int32) (v_column : List Int32) (v_below : List Int32) : fX9_pile_45 N x1 x3 s0 v_rowsOf v_columnsOf v_shapeRows v_shapeColumns v_row v_column v_below = mm_bd1 (fX9_within N ((s0).toInt64) (0 : Int64) ((x3 - (1 : Int32)).toInt64)) (fun (r_10 : Bool) =>
    if r_10 = false then
    (some ((-1 : Int32)))
    else (mm_ck (mm_nz (10 : Int32)) (mm_ck (mm_nz (10 : Int32)) (mm_bd1 (fX9_fieldAt N (0 : Int32) (x1 / (10 : Int32)) (mm_rem x1 (10 : Int32)) s0 v_rowsOf v_columnsOf v_row v_column v_below) (fun (r_15 : Int32) =>
    some (r_15)))))) := rfl

set_option maxHeartbeats 4000000 in
set_option maxRecDepth 20000 in
theorem sf_X9_pile {N : Nat} (hN : 700 ≤ N) {x1 : Int32} {x2 : Int32} {v_rowsOf : Int32} {v_columnsOf : Int32} {v_shapeRows : List Int32} {v_shapeColumns : List Int32} {v_row : List Int32} {v_column : List Int32} {v_below : List Int32} (h_0 : 1 ≤ v_rowsOf.toInt) (h_1 : v_rowsOf.toInt ≤ 4) (h_2 : 1 ≤ v_columnsOf.toInt) (h_3 : v_columnsOf.toInt ≤ 8) (h_4 : v_shapeRows.length = 6) (h_5 : v_shapeColumns.length = 6) (h_6 : v_row.length = 192) (h_7 : v_column.length = 192) (h_8 : v_below.length = 192) : wp (fX9_pile N x1 x2 v_rowsOf v_columnsOf v_shapeRows v_shapeColumns v_row v_column v_below) (fun (r : Int32) => True) := by
  refine wp_of (uf_X9_pile _ _ _ _ _ _ _ _ _ _) ?_
  have n_1 : (0 : Int32).toInt = 0 := by decide
  refine wp_bd1 (sf_X9_isPile hN h_4 h_5 (by omega) (by omega)) (fun r_1 _ => ?_)
  refine wp_if (fun c_2 => ?_) (fun c_2 => ?_)
  ·
    exact wp_so1 trivial
  ·
    have n_3 : (10 : Int32).toInt = 10 := by decide
    refine wp_ck (i_nz (by omega)) ?_
    refine wp_ck (i_nz (by omega)) ?_
    refine wp_bd1 (sf_X9_sizeAt hN h_0 h_1 h_2 h_3 h_6 h_7 (by omega) (by omega)) (fun r_6 _ => ?_)
    have n_5 : (-2 : Int32).toInt = -2 := by decide
    refine wp_if (fun c_4 => ?_) (fun c_4 => ?_)
    ·
      have dc_4 := i_eq c_4
      exact wp_so1 trivial
    ·
      have dc_4 := i_ne c_4
      have n_7 : (-1 : Int32).toInt = -1 := by decide
      refine wp_if (fun c_6 => ?_) (fun c_6 => ?_)
      ·
        have dc_6 := i_eq c_6
        refine wp_of (uf_X9_pile_45 _ _ _ _ _ _ _ _ _ _ _) ?_
        have n_8 : (1 : Int32).toInt = 1 := by decide
        generalize hz_z : (r_6 - (1 : Int32)) = z
        first | have e_9 := i_subE hz_z (by omega) (by omega) | obtain ⟨k_9, e_9, e1_9, e2_9⟩ := i_subY hz_z
        have n_10 := i_64 z
        have n_11 : (0 : Int64).toInt = 0 := by decide
        refine wp_bd1 (sf_X9_within hN ) (fun r_10 q_12 => ?_)
        rcases q_12 with ⟨rfl, q_12⟩ | ⟨rfl, q_12⟩
        ·
          refine wp_ifn (by decide) ?_
          refine wp_ck (i_nz (by omega)) ?_
          refine wp_ck (i_nz (by omega)) ?_
          refine wp_bd1 (sf_X9_fieldAt hN h_0 h_1 h_2 h_3 h_6 h_7 h_8 (by omega) (by omega)) (fun r_15 _ => ?_)
          exact wp_so1 trivial
        ·
          refine wp_ifp (by decide) ?_
          exact wp_so1 trivial
      ·
        have dc_6 := i_ne c_6
        refine wp_of (uf_X9_pile_45 _ _ _ _ _ _ _ _ _ _ _) ?_
        have n_13 := i_64 x2
        have n_14 : (0 : Int64).toInt = 0 := by decide
        have n_15 : (1 : Int32).toInt = 1 := by decide
        generalize hz_z__16 : (r_6 - (1 : Int32)) = z__16
        first | have e_17 := i_subE hz_z__16 (by omega) (by omega) | obtain ⟨k_17, e_17, e1_17, e2_17⟩ := i_subY hz_z__16
        have n_18 := i_64 z__16
        refine wp_bd1 (sf_X9_within hN ) (fun r_10__19 q_20 => ?_)
        rcases q_20 with ⟨rfl, q_20⟩ | ⟨rfl, q_20⟩
        ·
          refine wp_ifn (by decide) ?_
          refine wp_ck (i_nz (by omega)) ?_
          refine wp_ck (i_nz (by omega)) ?_
          refine wp_bd1 (sf_X9_fieldAt hN h_0 h_1 h_2 h_3 h_6 h_7 h_8 (by omega) (by omega)) (fun r_15__21 _ => ?_)
          exact wp_so1 trivial
        ·
          refine wp_ifp (by decide) ?_
          exact wp_so1 trivial

theorem uf_X9_tornNow_4 (N : Nat) (n : Nat) (x1 : Int32) (x2 : Int32) (x3 : Int32) (v_rowsOf : Int32) (v_columnsOf : Int32) (v_limit : List Int32) (v_worn : List Int32) : fX9_tornNow_4 N (n + 1) x1 x2 x3 v_rowsOf v_columnsOf v_limit v_worn = 
    if (64 : Int32) ≤ x3 then
    (some (x2))
    else (mm_bd1 (fX9_isCrease N x3 v_rowsOf v_columnsOf) (fun (r_2 : Bool) =>
    if r_2 = false then
    (fX9_tornNow_43 N (fX9_tornNow_4 N n) x1 x3 x2 v_rowsOf v_columnsOf v_limit v_worn)
    else (mm_ck (mm_inb (((64 : Int32) * x1) + x3) v_worn.length) (mm_ck (mm_inb (0 : Int32) v_limit.length) (if (mm_ig v_worn (((64 : Int32) * x1) + x3)) < (mm_ig v_limit (0 : Int32)) then
    (fX9_tornNow_43 N (fX9_tornNow_4 N n) x1 x3 x2 v_rowsOf v_columnsOf v_limit v_worn)
    else (fX9_tornNow_44 N (fX9_tornNow_4 N n) x1 x3 (1 : Int32) x2 v_rowsOf v_columnsOf v_limit v_worn)))))) := rfl

theorem uf_X9_tornNow_43 (N : Nat) (k_4 : Int32 → Int32 → Int32 → Int32 → Int32 → List Int32 → List Int32 → Option (Int32)) (x1 : Int32) (x3 : Int32) (s0 : Int32) (v_rowsOf : Int32) (v_columnsOf : Int32) (v_limit : List Int32) (v_worn : List Int32) : fX9_tornNow_43 N k_4 x1 x3 s0 v_rowsOf v_columnsOf v_limit v_worn = fX9_tornNow_44 N k_4 x1 x3 (0 : Int32) s0 v_rowsOf v_columnsOf v_limit v_worn := rfl

theorem uf_X9_tornNow_44 (N : Nat) (k_4 : Int32 → Int32 → Int32 → Int32 → Int32 → List Int32 → List Int32 → Option (Int32)) (x1 : Int32) (x3 : Int32) (s0 : Int32) (s1 : Int32) (v_rowsOf : Int32) (v_columnsOf : Int32) (v_limit : List Int32) (v_worn : List Int32) : fX9_tornNow_44 N k_4 x1 x3 s0 s1 v_rowsOf v_columnsOf v_limit v_worn = mm_nm ((s1 + s0)) (fun (y_8 : Int32) =>
    mm_nm (x3 + (1 : Int32)) (fun (y_9 : Int32) =>
    k_4 x1 y_8 y_9 v_rowsOf v_columnsOf v_limit v_worn)) := rfl

set_option maxHeartbeats 4000000 in
set_option maxRecDepth 20000 in
theorem sf_X9_tornNow_4 {N : Nat} (hN : 700 ≤ N)  : ∀ (n : Nat) (x1 : Int32) (x2 : Int32) (x3 : Int32) (v_rowsOf : Int32) (v_columnsOf : Int32) (v_limit : List Int32) (v_worn : List Int32), 1 ≤ v_rowsOf.toInt → v_rowsOf.toInt ≤ 4 → 1 ≤ v_columnsOf.toInt → v_columnsOf.toInt ≤ 8 → v_limit.length = 1 → v_worn.length = 384 → 0 ≤ x1.toInt → x1.toInt ≤ 5 → 0 ≤ x3.toInt → x3.toInt ≤ 64 → (64 - x3.toInt).toNat < n → wp (fX9_tornNow_4 N n x1 x2 x3 v_rowsOf v_columnsOf v_limit v_worn) (fun (r : Int32) => True) := by
  intro n
  induction n with
  | zero =>
    intro x1 x2 x3 v_rowsOf v_columnsOf v_limit v_worn h_0 h_1 h_2 h_3 h_4 h_5 h_6 h_7 h_8 h_9 hm
    exact absurd hm (by omega)
  | succ n ih =>
    intro x1 x2 x3 v_rowsOf v_columnsOf v_limit v_worn h_0 h_1 h_2 h_3 h_4 h_5 h_6 h_7 h_8 h_9 hm
    refine wp_of (uf_X9_tornNow_4 _ _ _ _ _ _ _ _ _) ?_
    have n_2 : (64 : Int32).toInt = 64 := by decide
    refine wp_if (fun c_1 => ?_) (fun c_1 => ?_)
    ·
      have dc_1 := i_le c_1
      exact wp_so1 trivial
    ·
      have dc_1 := i_nle c_1
      refine wp_bd1 (sf_X9_isCrease hN h_0 h_1 h_2 h_3 h_8) (fun r_2 q_3 => ?_)
      rcases q_3 with ⟨rfl, q_3⟩ | ⟨rfl, q_3⟩
      ·
        refine wp_ifn (by decide) ?_
        generalize hz_z : ((64 : Int32) * x1) = z
        have e_4 := i_mulLE (c := 64) (by decide) hz_z (by omega) (by omega)
        generalize hz_z__5 : (z + x3) = z__5
        have e_6 := i_addE hz_z__5 (by omega) (by omega)
        refine wp_ck (i_inb (by omega) (by omega)) ?_
        have n_7 : (0 : Int32).toInt = 0 := by decide
        refine wp_ck (i_inb (by omega) (by omega)) ?_
        refine wp_if (fun c_8 => ?_) (fun c_8 => ?_)
        ·
          have dc_8 := i_lt c_8
          refine wp_of (uf_X9_tornNow_43 _ _ _ _ _ _ _ _ _) ?_
          refine wp_of (uf_X9_tornNow_44 _ _ _ _ _ _ _ _ _ _) ?_
          refine wp_nm (fun y_8 _ => ?_)
          have n_9 : (1 : Int32).toInt = 1 := by decide
          refine wp_nm (fun y_9 h_y_9 => ?_)
          have e_10 := i_addE h_y_9.symm (by omega) (by omega)
          exact ih _ _ _ _ _ _ _ h_0 h_1 h_2 h_3 h_4 h_5 h_6 h_7 (by omega) (by omega) (by omega)
        ·
          have dc_8 := i_nlt c_8
          refine wp_of (uf_X9_tornNow_44 _ _ _ _ _ _ _ _ _ _) ?_
          refine wp_nm (fun y_8__11 _ => ?_)
          have n_13 : (1 : Int32).toInt = 1 := by decide
          refine wp_nm (fun y_9__12 h_y_9__12 => ?_)
          have e_14 := i_addE h_y_9__12.symm (by omega) (by omega)
          exact ih _ _ _ _ _ _ _ h_0 h_1 h_2 h_3 h_4 h_5 h_6 h_7 (by omega) (by omega) (by omega)
      ·
        refine wp_ifp (by decide) ?_
        refine wp_of (uf_X9_tornNow_43 _ _ _ _ _ _ _ _ _) ?_
        refine wp_of (uf_X9_tornNow_44 _ _ _ _ _ _ _ _ _ _) ?_
        refine wp_nm (fun y_8__15 _ => ?_)
        have n_17 : (1 : Int32).toInt = 1 := by decide
        refine wp_nm (fun y_9__16 h_y_9__16 => ?_)
        have e_18 := i_addE h_y_9__16.symm (by omega) (by omega)
        exact ih _ _ _ _ _ _ _ h_0 h_1 h_2 h_3 h_4 h_5 h_6 h_7 (by omega) (by omega) (by omega)

theorem uf_X9_tornNow (N : Nat) (x1 : Int32) (v_rowsOf : Int32) (v_columnsOf : Int32) (v_limit : List Int32) (v_worn : List Int32) : fX9_tornNow N x1 v_rowsOf v_columnsOf v_limit v_worn = fX9_tornNow_4 N N x1 (0 : Int32) (0 : Int32) v_rowsOf v_columnsOf v_limit v_worn := rfl

set_option maxHeartbeats 4000000 in
set_option maxRecDepth 20000 in
theorem sf_X9_tornNow {N : Nat} (hN : 700 ≤ N) {x1 : Int32} {v_rowsOf : Int32} {v_columnsOf : Int32} {v_limit : List Int32} {v_worn : List Int32} (h_0 : 1 ≤ v_rowsOf.toInt) (h_1 : v_rowsOf.toInt ≤ 4) (h_2 : 1 ≤ v_columnsOf.toInt) (h_3 : v_columnsOf.toInt ≤ 8) (h_4 : v_limit.length = 1) (h_5 : v_worn.length = 384) (h_6 : 0 ≤ x1.toInt) (h_7 : x1.toInt ≤ 5) : wp (fX9_tornNow N x1 v_rowsOf v_columnsOf v_limit v_worn) (fun (r : Int32) => True) := by
  refine wp_of (uf_X9_tornNow _ _ _ _ _ _) ?_
  have n_1 : (0 : Int32).toInt = 0 := by decide
  exact sf_X9_tornNow_4 hN _ _ _ _ _ _ _ _ h_0 h_1 h_2 h_3 h_4 h_5 h_6 h_7 (by omega) (by omega) (by omega)

theorem uf_X9_led (N : Nat) (x1 : Int32) (v_rowsOf : Int32) (v_columnsOf : Int32) (v_folded : Int32) (v_wronged : Int32) (v_limit : List Int32) (v_worn : List Int32) : fX9_led N x1 v_rowsOf v_columnsOf v_folded v_wronged v_limit v_worn = if x1 = 0 then
    (some (v_folded))
    else (if x1 = (1 : Int32) then
    (some (v_wronged))
    else (if x1 = (2 : Int32) then
    (mm_bd1 (fX9_tornNow N (0 : Int32) v_rowsOf v_columnsOf v_limit v_worn) (fun (r_4 : Int32) =>
    some (r_4)))
    else (some ((-1 : Int32))))) := rfl

set_option maxHeartbeats 4000000 in
set_option maxRecDepth 20000 in
theorem sf_X9_led {N : Nat} (hN : 700 ≤ N) {x1 : Int32} {v_rowsOf : Int32} {v_columnsOf : Int32} {v_folded : Int32} {v_wronged : Int32} {v_limit : List Int32} {v_worn : List Int32} (h_0 : 1 ≤ v_rowsOf.toInt) (h_1 : v_rowsOf.toInt ≤ 4) (h_2 : 1 ≤ v_columnsOf.toInt) (h_3 : v_columnsOf.toInt ≤ 8) (h_4 : v_limit.length = 1) (h_5 : v_worn.length = 384) : wp (fX9_led N x1 v_rowsOf v_columnsOf v_folded v_wronged v_limit v_worn) (fun (r : Int32) => True) := by
  refine wp_of (uf_X9_led _ _ _ _ _ _ _ _) ?_
  have n_2 : (0 : Int32).toInt = 0 := by decide
  refine wp_if (fun c_1 => ?_) (fun c_1 => ?_)
  ·
    have dc_1 := i_eq c_1
    exact wp_so1 trivial
  ·
    have dc_1 := i_ne c_1
    have n_4 : (1 : Int32).toInt = 1 := by decide
    refine wp_if (fun c_3 => ?_) (fun c_3 => ?_)
    ·
      have dc_3 := i_eq c_3
      exact wp_so1 trivial
    ·
      have dc_3 := i_ne c_3
      have n_6 : (2 : Int32).toInt = 2 := by decide
      refine wp_if (fun c_5 => ?_) (fun c_5 => ?_)
      ·
        have dc_5 := i_eq c_5
        refine wp_bd1 (sf_X9_tornNow hN h_0 h_1 h_2 h_3 h_4 h_5 (by omega) (by omega)) (fun r_4 _ => ?_)
        exact wp_so1 trivial
      ·
        have dc_5 := i_ne c_5
        exact wp_so1 trivial

theorem uf_X9_plan (N : Nat) (x1 : Int32) (x2 : Int32) (v_planned : Int32) (v_planLine : List Int32) (v_planWay : List Int32) : fX9_plan N x1 x2 v_planned v_planLine v_planWay = if x1 = 0 then
    (some ((0 : Int32), (0 : Int32), v_planLine, v_planWay))
    else (mm_bd1 (fX9_within N ((x1).toInt64) (1 : Int64) (7 : Int64)) (fun (r_2 : Bool) =>
    if r_2 = false then
    (some ((-1 : Int32), v_planned, v_planLine, v_planWay))
    else (mm_bd1 (fX9_within N ((x2).toInt64) (0 : Int64) (7 : Int64)) (fun (r_5 : Bool) =>
    if r_5 = false then
    (some ((-1 : Int32), v_planned, v_planLine, v_planWay))
    else (if v_planned = (12 : Int32) then
    (some ((-3 : Int32), v_planned, v_planLine, v_planWay))
    else (mm_ck (mm_inb v_planned v_planLine.length) (mm_nm (mm_is v_planLine v_planned x1) (fun (l_10 : List Int32) =>
    mm_ck (mm_inb v_planned v_planWay.length) (mm_nm (mm_is v_planWay v_planned x2) (fun (l_12 : List Int32) =>
    mm_nm ((v_planned + (1 : Int32))) (fun (y_13 : Int32) =>
    some (y_13, y_13, l_10, l_12)))))))))))) := rfl

set_option maxHeartbeats 4000000 in
set_option maxRecDepth 20000 in
theorem sf_X9_plan {N : Nat} (hN : 700 ≤ N) {x1 : Int32} {x2 : Int32} {v_planned : Int32} {v_planLine : List Int32} {v_planWay : List Int32} (h_0 : 0 ≤ v_planned.toInt) (h_1 : v_planned.toInt ≤ 12) (h_2 : v_planLine.length = 12) (h_3 : v_planWay.length = 12) : wp (fX9_plan N x1 x2 v_planned v_planLine v_planWay) (cu4 (fun (r : Int32) (wv_planned : Int32) (wv_planLine : List Int32) (wv_planWay : List Int32) => 0 ≤ wv_planned.toInt ∧ wv_planned.toInt ≤ 12 ∧ wv_planLine.length = 12 ∧ wv_planWay.length = 12)) := by
  refine wp_of (uf_X9_plan _ _ _ _ _ _) ?_
  have n_2 : (0 : Int32).toInt = 0 := by decide
  refine wp_if (fun c_1 => ?_) (fun c_1 => ?_)
  ·
    have dc_1 := i_eq c_1
    exact wp_so4 ⟨(by omega), (by omega), h_2, h_3⟩
  ·
    have dc_1 := i_ne c_1
    have n_3 := i_64 x1
    have n_4 : (1 : Int64).toInt = 1 := by decide
    have n_5 : (7 : Int64).toInt = 7 := by decide
    refine wp_bd1 (sf_X9_within hN ) (fun r_2 q_6 => ?_)
    rcases q_6 with ⟨rfl, q_6⟩ | ⟨rfl, q_6⟩
    ·
      refine wp_ifn (by decide) ?_
      have n_7 := i_64 x2
      have n_8 : (0 : Int64).toInt = 0 := by decide
      refine wp_bd1 (sf_X9_within hN ) (fun r_5 q_9 => ?_)
      rcases q_9 with ⟨rfl, q_9⟩ | ⟨rfl, q_9⟩
      ·
        refine wp_ifn (by decide) ?_
        have n_11 : (12 : Int32).toInt = 12 := by decide
        refine wp_if (fun c_10 => ?_) (fun c_10 => ?_)
        ·
          have dc_10 := i_eq c_10
          exact wp_so4 ⟨h_0, h_1, h_2, h_3⟩
        ·
          have dc_10 := i_ne c_10
          refine wp_ck (i_inb (by omega) (by omega)) ?_
          refine wp_nm (fun l_10 h_l_10 => ?_)
          have nl_l_10 : l_10.length = 12 := by rw [h_l_10, is_len]; assumption
          refine wp_ck (i_inb (by omega) (by omega)) ?_
          refine wp_nm (fun l_12 h_l_12 => ?_)
          have nl_l_12 : l_12.length = 12 := by rw [h_l_12, is_len]; assumption
          have n_12 : (1 : Int32).toInt = 1 := by decide
          refine wp_nm (fun y_13 h_y_13 => ?_)
          have e_13 := i_addE h_y_13.symm (by omega) (by omega)
          exact wp_so4 ⟨(by omega), (by omega), nl_l_10, nl_l_12⟩
      ·
        refine wp_ifp (by decide) ?_
        exact wp_so4 ⟨h_0, h_1, h_2, h_3⟩
    ·
      refine wp_ifp (by decide) ?_
      exact wp_so4 ⟨h_0, h_1, h_2, h_3⟩

theorem uf_X9_isShelf (N : Nat) (x0 : Int32) : fX9_isShelf N x0 = mm_bd1 (fX9_within N ((x0).toInt64) (0 : Int64) (5 : Int64)) (fun (r_1 : Bool) =>
    some (r_1)) := rfl

set_option maxHeartbeats 4000000 in
set_option maxRecDepth 20000 in
theorem sf_X9_isShelf {N : Nat} (hN : 700 ≤ N) {x0 : Int32}  : wp (fX9_isShelf N x0) (fun (r : Bool) => ((r = true ∧ 0 ≤ x0.toInt ∧ x0.toInt ≤ 5) ∨ (r = false ∧ True))) := by
  refine wp_of (uf_X9_isShelf _ _) ?_
  have n_1 := i_64 x0
  have n_2 : (0 : Int64).toInt = 0 := by decide
  have n_3 : (5 : Int64).toInt = 5 := by decide
  refine wp_bd1 (sf_X9_within hN ) (fun r_1 q_4 => ?_)
  rcases q_4 with ⟨rfl, q_4⟩ | ⟨rfl, q_4⟩
  ·
    exact wp_so1 (by first | exact Or.inl ⟨rfl, by first | trivial | omega⟩ | exact Or.inr ⟨rfl, by first | trivial | omega⟩)
  ·
    exact wp_so1 (by first | exact Or.inl ⟨rfl, by first | trivial | omega⟩ | exact Or.inr ⟨rfl, by first | trivial | omega⟩)

theorem uf_X9_topOf (N : Nat) (x1 : Int32) (x2 : Int32) (x3 : Int32) (v_rowsOf : Int32) (v_columnsOf : Int32) (v_row : List Int32) (v_column : List Int32) (v_below : List Int32) : fX9_topOf N x1 x2 x3 v_rowsOf v_columnsOf v_row v_column v_below = mm_bd1 (fX9_sizeAt N x1 x2 x3 v_rowsOf v_columnsOf v_row v_column) (fun (r_1 : Int32) =>
    mm_bd1 (fX9_fieldAt N x1 x2 x3 (r_1 - (1 : Int32)) v_rowsOf v_columnsOf v_row v_column v_below) (fun (r_3 : Int32) =>
    some (r_3))) := rfl

set_option maxHeartbeats 4000000 in
set_option maxRecDepth 20000 in
theorem sf_X9_topOf {N : Nat} (hN : 700 ≤ N) {x1 : Int32} {x2 : Int32} {x3 : Int32} {v_rowsOf : Int32} {v_columnsOf : Int32} {v_row : List Int32} {v_column : List Int32} {v_below : List Int32} (h_0 : 1 ≤ v_rowsOf.toInt) (h_1 : v_rowsOf.toInt ≤ 4) (h_2 : 1 ≤ v_columnsOf.toInt) (h_3 : v_columnsOf.toInt ≤ 8) (h_4 : v_row.length = 192) (h_5 : v_column.length = 192) (h_6 : v_below.length = 192) (h_7 : 0 ≤ x1.toInt) (h_8 : x1.toInt ≤ 5) : wp (fX9_topOf N x1 x2 x3 v_rowsOf v_columnsOf v_row v_column v_below) (fun (r : Int32) => True) := by
  refine wp_of (uf_X9_topOf _ _ _ _ _ _ _ _ _) ?_
  refine wp_bd1 (sf_X9_sizeAt hN h_0 h_1 h_2 h_3 h_4 h_5 h_7 h_8) (fun r_1 _ => ?_)
  refine wp_bd1 (sf_X9_fieldAt hN h_0 h_1 h_2 h_3 h_4 h_5 h_6 h_7 h_8) (fun r_3 _ => ?_)
  exact wp_so1 trivial

theorem uf_X9_isOnTop (N : Nat) (x1 : Int32) (x2 : Int32) (v_rowsOf : Int32) (v_columnsOf : Int32) (v_row : List Int32) (v_column : List Int32) (v_below : List Int32) : fX9_isOnTop N x1 x2 v_rowsOf v_columnsOf v_row v_column v_below = mm_ck (mm_inb (((32 : Int32) * x1) + x2) v_row.length) (mm_ck (mm_inb (((32 : Int32) * x1) + x2) v_column.length) (mm_bd1 (fX9_topOf N x1 (mm_ig v_row (((32 : Int32) * x1) + x2)) (mm_ig v_column (((32 : Int32) * x1) + x2)) v_rowsOf v_columnsOf v_row v_column v_below) (fun (r_3 : Int32) =>
    if r_3 = x2 then
    (some (true))
    else (some (false))))) := rfl

set_option maxHeartbeats 4000000 in
set_option maxRecDepth 20000 in
theorem sf_X9_isOnTop {N : Nat} (hN : 700 ≤ N) {x1 : Int32} {x2 : Int32} {v_rowsOf : Int32} {v_columnsOf : Int32} {v_row : List Int32} {v_column : List Int32} {v_below : List Int32} (h_0 : 1 ≤ v_rowsOf.toInt) (h_1 : v_rowsOf.toInt ≤ 4) (h_2 : 1 ≤ v_columnsOf.toInt) (h_3 : v_columnsOf.toInt ≤ 8) (h_4 : v_row.length = 192) (h_5 : v_column.length = 192) (h_6 : v_below.length = 192) (h_7 : 0 ≤ x1.toInt) (h_8 : x1.toInt ≤ 5) (h_9 : 0 ≤ x2.toInt) (h_10 : x2.toInt < 32) : wp (fX9_isOnTop N x1 x2 v_rowsOf v_columnsOf v_row v_column v_below) (fun (r : Bool) => True) := by
  refine wp_of (uf_X9_isOnTop _ _ _ _ _ _ _ _) ?_
  have n_1 : (32 : Int32).toInt = 32 := by decide
  generalize hz_z : ((32 : Int32) * x1) = z
  have e_2 := i_mulLE (c := 32) (by decide) hz_z (by omega) (by omega)
  generalize hz_z__3 : (z + x2) = z__3
  have e_4 := i_addE hz_z__3 (by omega) (by omega)
  refine wp_ck (i_inb (by omega) (by omega)) ?_
  refine wp_ck (i_inb (by omega) (by omega)) ?_
  refine wp_bd1 (sf_X9_topOf hN h_0 h_1 h_2 h_3 h_4 h_5 h_6 h_7 h_8) (fun r_3 _ => ?_)
  refine wp_if (fun c_5 => ?_) (fun c_5 => ?_)
  ·
    have dc_5 := i_eq c_5
    exact wp_so1 trivial
  ·
    have dc_5 := i_ne c_5
    exact wp_so1 trivial

theorem uf_X9_crease (N : Nat) (x1 : Int32) (x2 : Int32) (v_rowsOf : Int32) (v_columnsOf : Int32) (v_limit : List Int32) (v_worn : List Int32) (v_lastBend : List Int32) : fX9_crease N x1 x2 v_rowsOf v_columnsOf v_limit v_worn v_lastBend = if x1 < 0 then
    (some ((-1 : Int32)))
    else (mm_ck (mm_nz (10 : Int32)) (if (1 : Int32) < (mm_rem x1 (10 : Int32)) then
    (some ((-1 : Int32)))
    else (mm_ck (mm_nz (10 : Int32)) (mm_ck (mm_nz (10 : Int32)) (mm_bd1 (fX9_isCrease N (((2 : Int32) * (x1 / (10 : Int32))) + (mm_rem x1 (10 : Int32))) v_rowsOf v_columnsOf) (fun (r_6 : Bool) =>
    if r_6 = false then
    (some ((-1 : Int32)))
    else (mm_bd1 (fX9_within N ((x2).toInt64) (0 : Int64) (2 : Int64)) (fun (r_9 : Bool) =>
    if r_9 = false then
    (some ((-1 : Int32)))
    else (mm_ck (mm_nz (10 : Int32)) (mm_ck (mm_nz (10 : Int32)) (mm_nm ((((2 : Int32) * (x1 / (10 : Int32))) + (mm_rem x1 (10 : Int32)))) (fun (y_14 : Int32) =>
    if x2 = 0 then
    (mm_ck (mm_inb y_14 v_worn.length) (some ((mm_ig v_worn y_14))))
    else (if x2 = (1 : Int32) then
    (mm_ck (mm_inb y_14 v_lastBend.length) (some ((mm_ig v_lastBend y_14))))
    else (mm_ck (mm_inb y_14 v_worn.length) (mm_ck (mm_inb (0 : Int32) v_limit.length) (if (mm_ig v_worn y_14) < (mm_ig v_limit (0 : Int32)) then
    (some ((0 : Int32)))
    else (some ((1 : Int32))))))))))))))))))) := rfl

set_option maxHeartbeats 4000000 in
set_option maxRecDepth 20000 in
theorem sf_X9_crease {N : Nat} (hN : 700 ≤ N) {x1 : Int32} {x2 : Int32} {v_rowsOf : Int32} {v_columnsOf : Int32} {v_limit : List Int32} {v_worn : List Int32} {v_lastBend : List Int32} (h_0 : 1 ≤ v_rowsOf.toInt) (h_1 : v_rowsOf.toInt ≤ 4) (h_2 : 1 ≤ v_columnsOf.toInt) (h_3 : v_columnsOf.toInt ≤ 8) (h_4 : v_limit.length = 1) (h_5 : v_worn.length = 384) (h_6 : v_lastBend.length = 384) : wp (fX9_crease N x1 x2 v_rowsOf v_columnsOf v_limit v_worn v_lastBend) (fun (r : Int32) => True) := by
  have m3 := (i_fl (a := v_rowsOf) (b := v_columnsOf) (by omega) (by omega) (by omega) (by omega)).2
  have hx1 : x1.toInt < 2147483648 := Int32.toInt_lt x1
  have hx2 : x2.toInt < 2147483648 := Int32.toInt_lt x2
  refine wp_of (uf_X9_crease _ _ _ _ _ _ _ _) ?_
  have n_2 : (0 : Int32).toInt = 0 := by decide
  refine wp_if (fun c_1 => ?_) (fun c_1 => ?_)
  ·
    have dc_1 := i_lt c_1
    exact wp_so1 trivial
  ·
    have dc_1 := i_nlt c_1
    have n_3 : (10 : Int32).toInt = 10 := by decide
    refine wp_ck (i_nz (by omega)) ?_
    have n_5 : (1 : Int32).toInt = 1 := by decide
    generalize hz_z : (mm_rem x1 (10 : Int32)) = z
    have e_6 := i_remL (c := 10) (by decide) (by decide) hz_z
    refine wp_if (fun c_4 => ?_) (fun c_4 => ?_)
    ·
      have dc_4 := i_lt c_4
      exact wp_so1 trivial
    ·
      have dc_4 := i_nlt c_4
      refine wp_ck (i_nz (by omega)) ?_
      refine wp_ck (i_nz (by omega)) ?_
      have n_7 : (2 : Int32).toInt = 2 := by decide
      generalize hz_z__8 : (x1 / (10 : Int32)) = z__8
      have e_9 := i_divL (c := 10) (by decide) (by decide) hz_z__8
      generalize hz_z__10 : ((2 : Int32) * z__8) = z__10
      first | have e_11 := i_mulLE (c := 2) (by decide) hz_z__10 (by omega) (by omega) | obtain ⟨k_11, e_11, e1_11, e2_11⟩ := i_mulL (c := 2) (by decide) hz_z__10
      generalize hz_z__12 : (z__10 + z) = z__12
      first | have e_13 := i_addE hz_z__12 (by omega) (by omega) | obtain ⟨k_13, e_13, e1_13, e2_13⟩ := i_addY hz_z__12
      refine wp_bd1 (sf_X9_isCrease hN h_0 h_1 h_2 h_3 (by omega)) (fun r_6 q_14 => ?_)
      rcases q_14 with ⟨rfl, q_14⟩ | ⟨rfl, q_14⟩
      ·
        refine wp_ifn (by decide) ?_
        have n_15 := i_64 x2
        have n_16 : (0 : Int64).toInt = 0 := by decide
        have n_17 : (2 : Int64).toInt = 2 := by decide
        refine wp_bd1 (sf_X9_within hN ) (fun r_9 q_18 => ?_)
        rcases q_18 with ⟨rfl, q_18⟩ | ⟨rfl, q_18⟩
        ·
          refine wp_ifn (by decide) ?_
          refine wp_ck (i_nz (by omega)) ?_
          refine wp_ck (i_nz (by omega)) ?_
          refine wp_nm (fun y_14 h_y_14 => ?_)
          subst h_y_14
          refine wp_if (fun c_19 => ?_) (fun c_19 => ?_)
          ·
            have dc_19 := i_eq c_19
            refine wp_ck (i_inb (by omega) (by omega)) ?_
            exact wp_so1 trivial
          ·
            have dc_19 := i_ne c_19
            refine wp_if (fun c_20 => ?_) (fun c_20 => ?_)
            ·
              have dc_20 := i_eq c_20
              refine wp_ck (i_inb (by omega) (by omega)) ?_
              exact wp_so1 trivial
            ·
              have dc_20 := i_ne c_20
              refine wp_ck (i_inb (by omega) (by omega)) ?_
              refine wp_ck (i_inb (by omega) (by omega)) ?_
              refine wp_if (fun c_21 => ?_) (fun c_21 => ?_)
              ·
                have dc_21 := i_lt c_21
                exact wp_so1 trivial
              ·
                have dc_21 := i_nlt c_21
                exact wp_so1 trivial
        ·
          refine wp_ifp (by decide) ?_
          exact wp_so1 trivial
      ·
        refine wp_ifp (by decide) ?_
        exact wp_so1 trivial
end
section
/-! safe -/

theorem fr_tr {u v w : List Int32} {A B A' B' : Int} (h1 : fr u v A B) (h2 : fr v w A' B') (k1 : A ≤ A') (k2 : B' ≤ B) : fr u w A B := ⟨by rw [h2.1, h1.1], fun i i0 i1 i2 => by
  have e := h1.1
  rw [h2.2 i i0 (by omega) (by omega), h1.2 i i0 i1 i2]⟩
theorem fr_mono {u v : List Int32} {A B A' B' : Int} (h : fr u v A' B') (k1 : A ≤ A') (k2 : B' ≤ B) : fr u v A B := fr_tr (fr_refl u A B) h k1 k2

theorem uf_X9_startsAt_7 (N : Nat) (n : Nat) (x1 : Int32) (x2 : Int32) (v_rowsOf : Int32) (v_columnsOf : Int32) (v_shapeRows : List Int32) (v_shapeColumns : List Int32) (v_row : List Int32) (v_column : List Int32) (v_below : List Int32) (v_face : List Int32) (v_worn : List Int32) (v_lastBend : List Int32) : fX9_startsAt_7 N (n + 1) x1 x2 v_rowsOf v_columnsOf v_shapeRows v_shapeColumns v_row v_column v_below v_face v_worn v_lastBend = 
    if (64 : Int32) ≤ x2 then
    (some (v_shapeRows, v_shapeColumns, v_row, v_column, v_below, v_face, v_worn, v_lastBend))
    else (mm_ck (mm_inb x2 v_worn.length) (mm_nm ((mm_ig v_worn x2)) (fun (y_10 : Int32) =>
    mm_ck (mm_inb (((64 : Int32) * x1) + x2) v_worn.length) (mm_nm (mm_is v_worn (((64 : Int32) * x1) + x2) y_10) (fun (l_12 : List Int32) =>
    mm_ck (mm_inb x2 v_lastBend.length) (mm_nm ((mm_ig v_lastBend x2)) (fun (y_14 : Int32) =>
    mm_ck (mm_inb (((64 : Int32) * x1) + x2) v_lastBend.length) (mm_nm (mm_is v_lastBend (((64 : Int32) * x1) + x2) y_14) (fun (l_16 : List Int32) =>
    mm_nm (x2 + (1 : Int32)) (fun (y_17 : Int32) =>
    fX9_startsAt_7 N n x1 y_17 v_rowsOf v_columnsOf v_shapeRows v_shapeColumns v_row v_column v_below v_face l_12 l_16)))))))))) := rfl

set_option maxHeartbeats 4000000 in
set_option maxRecDepth 20000 in
theorem sf_X9_startsAt_7 {N : Nat} (hN : 700 ≤ N) {u_row : List Int32} {u_col : List Int32} {u_sR : List Int32} {u_sC : List Int32} {A : Int} {B9 : Int} {a9 : Int} {b9 : Int} : ∀ (n : Nat) (x1 : Int32) (x2 : Int32) (v_rowsOf : Int32) (v_columnsOf : Int32) (v_shapeRows : List Int32) (v_shapeColumns : List Int32) (v_row : List Int32) (v_column : List Int32) (v_below : List Int32) (v_face : List Int32) (v_worn : List Int32) (v_lastBend : List Int32), 1 ≤ v_rowsOf.toInt → v_rowsOf.toInt ≤ 4 → 1 ≤ v_columnsOf.toInt → v_columnsOf.toInt ≤ 8 → v_shapeRows.length = 6 → v_shapeColumns.length = 6 → v_row.length = 192 → v_column.length = 192 → v_below.length = 192 → v_face.length = 192 → v_worn.length = 384 → v_lastBend.length = 384 → 0 ≤ x1.toInt → x1.toInt ≤ 5 → fr u_row v_row A B9 → fr u_col v_column A B9 → fr u_sR v_shapeRows a9 b9 → fr u_sC v_shapeColumns a9 b9 → A ≤ 32 * x1.toInt → 32 * x1.toInt + 32 ≤ B9 → a9 ≤ x1.toInt → x1.toInt < b9 → lv9 v_rowsOf v_columnsOf v_shapeRows v_shapeColumns v_row v_column x1 → 0 ≤ x2.toInt → x2.toInt ≤ 64 → (64 - x2.toInt).toNat < n → wp (fX9_startsAt_7 N n x1 x2 v_rowsOf v_columnsOf v_shapeRows v_shapeColumns v_row v_column v_below v_face v_worn v_lastBend) (cu8 (fun (wv_shapeRows : List Int32) (wv_shapeColumns : List Int32) (wv_row : List Int32) (wv_column : List Int32) (wv_below : List Int32) (wv_face : List Int32) (wv_worn : List Int32) (wv_lastBend : List Int32) => wv_shapeRows.length = 6 ∧ wv_shapeColumns.length = 6 ∧ wv_row.length = 192 ∧ wv_column.length = 192 ∧ wv_below.length = 192 ∧ wv_face.length = 192 ∧ wv_worn.length = 384 ∧ wv_lastBend.length = 384 ∧ fr u_row wv_row A B9 ∧ fr u_col wv_column A B9 ∧ fr u_sR wv_shapeRows a9 b9 ∧ fr u_sC wv_shapeColumns a9 b9 ∧ lv9 v_rowsOf v_columnsOf wv_shapeRows wv_shapeColumns wv_row wv_column x1)) := by
  intro n
  induction n with
  | zero =>
    intro x1 x2 v_rowsOf v_columnsOf v_shapeRows v_shapeColumns v_row v_column v_below v_face v_worn v_lastBend h_0 h_1 h_2 h_3 h_4 h_5 h_6 h_7 h_8 h_9 h_10 h_11 h_12 h_13 h_14 h_15 h_16 h_17 h_18 h_19 h_20 h_21 h_22 h_23 h_24 hm
    exact absurd hm (by omega)
  | succ n ih =>
    intro x1 x2 v_rowsOf v_columnsOf v_shapeRows v_shapeColumns v_row v_column v_below v_face v_worn v_lastBend h_0 h_1 h_2 h_3 h_4 h_5 h_6 h_7 h_8 h_9 h_10 h_11 h_12 h_13 h_14 h_15 h_16 h_17 h_18 h_19 h_20 h_21 h_22 h_23 h_24 hm
    refine wp_of (uf_X9_startsAt_7 _ _ _ _ _ _ _ _ _ _ _ _ _ _) ?_
    have n_2 : (64 : Int32).toInt = 64 := by decide
    refine wp_if (fun c_1 => ?_) (fun c_1 => ?_)
    ·
      have dc_1 := i_le c_1
      exact wp_so8 ⟨h_4, h_5, h_6, h_7, h_8, h_9, h_10, h_11, h_14, h_15, h_16, h_17, h_22⟩
    ·
      have dc_1 := i_nle c_1
      refine wp_ck (i_inb (by omega) (by omega)) ?_
      refine wp_nm (fun y_10 h_y_10 => ?_)
      have t_y_10 : y_10.toInt = ((mm_ig v_worn x2)).toInt := by rw [h_y_10]
      generalize hz_z : ((64 : Int32) * x1) = z
      have e_3 := i_mulLE (c := 64) (by decide) hz_z (by omega) (by omega)
      generalize hz_z__4 : (z + x2) = z__4
      have e_5 := i_addE hz_z__4 (by omega) (by omega)
      refine wp_ck (i_inb (by omega) (by omega)) ?_
      refine wp_nm (fun l_12 h_l_12 => ?_)
      have nl_l_12 : l_12.length = 384 := by rw [h_l_12, is_len]; assumption
      refine wp_ck (i_inb (by omega) (by omega)) ?_
      refine wp_nm (fun y_14 h_y_14 => ?_)
      have t_y_14 : y_14.toInt = ((mm_ig v_lastBend x2)).toInt := by rw [h_y_14]
      refine wp_ck (i_inb (by omega) (by omega)) ?_
      refine wp_nm (fun l_16 h_l_16 => ?_)
      have nl_l_16 : l_16.length = 384 := by rw [h_l_16, is_len]; assumption
      have n_6 : (1 : Int32).toInt = 1 := by decide
      refine wp_nm (fun y_17 h_y_17 => ?_)
      have e_7 := i_addE h_y_17.symm (by omega) (by omega)
      exact ih _ _ _ _ _ _ _ _ _ _ _ _ h_0 h_1 h_2 h_3 h_4 h_5 h_6 h_7 h_8 h_9 nl_l_12 nl_l_16 h_12 h_13 h_14 h_15 h_16 h_17 h_18 h_19 h_20 h_21 h_22 (by omega) (by omega) (by omega)

theorem uf_X9_startsAt (N : Nat) (x1 : Int32) (v_rowsOf : Int32) (v_columnsOf : Int32) (v_shapeRows : List Int32) (v_shapeColumns : List Int32) (v_row : List Int32) (v_column : List Int32) (v_below : List Int32) (v_face : List Int32) (v_worn : List Int32) (v_lastBend : List Int32) : fX9_startsAt N x1 v_rowsOf v_columnsOf v_shapeRows v_shapeColumns v_row v_column v_below v_face v_worn v_lastBend = mm_bd6 (fX9_liesFlat N x1 v_rowsOf v_columnsOf v_shapeRows v_shapeColumns v_row v_column v_below v_face) (fun (w_1 : List Int32) (w_2 : List Int32) (w_3 : List Int32) (w_4 : List Int32) (w_5 : List Int32) (w_6 : List Int32) =>
    fX9_startsAt_7 N N x1 (0 : Int32) v_rowsOf v_columnsOf w_1 w_2 w_3 w_4 w_5 w_6 v_worn v_lastBend) := rfl

set_option maxHeartbeats 4000000 in
set_option maxRecDepth 20000 in
theorem sf_X9_startsAt {N : Nat} (hN : 700 ≤ N) {u_row : List Int32} {u_col : List Int32} {u_sR : List Int32} {u_sC : List Int32} {A : Int} {B9 : Int} {a9 : Int} {b9 : Int} {x1 : Int32} {v_rowsOf : Int32} {v_columnsOf : Int32} {v_shapeRows : List Int32} {v_shapeColumns : List Int32} {v_row : List Int32} {v_column : List Int32} {v_below : List Int32} {v_face : List Int32} {v_worn : List Int32} {v_lastBend : List Int32} (h_0 : 1 ≤ v_rowsOf.toInt) (h_1 : v_rowsOf.toInt ≤ 4) (h_2 : 1 ≤ v_columnsOf.toInt) (h_3 : v_columnsOf.toInt ≤ 8) (h_4 : v_shapeRows.length = 6) (h_5 : v_shapeColumns.length = 6) (h_6 : v_row.length = 192) (h_7 : v_column.length = 192) (h_8 : v_below.length = 192) (h_9 : v_face.length = 192) (h_10 : v_worn.length = 384) (h_11 : v_lastBend.length = 384) (h_12 : 0 ≤ x1.toInt) (h_13 : x1.toInt ≤ 5) (h_14 : fr u_row v_row A B9) (h_15 : fr u_col v_column A B9) (h_16 : fr u_sR v_shapeRows a9 b9) (h_17 : fr u_sC v_shapeColumns a9 b9) (h_18 : A ≤ 32 * x1.toInt) (h_19 : 32 * x1.toInt + 32 ≤ B9) (h_20 : a9 ≤ x1.toInt) (h_21 : x1.toInt < b9) : wp (fX9_startsAt N x1 v_rowsOf v_columnsOf v_shapeRows v_shapeColumns v_row v_column v_below v_face v_worn v_lastBend) (cu8 (fun (wv_shapeRows : List Int32) (wv_shapeColumns : List Int32) (wv_row : List Int32) (wv_column : List Int32) (wv_below : List Int32) (wv_face : List Int32) (wv_worn : List Int32) (wv_lastBend : List Int32) => wv_shapeRows.length = 6 ∧ wv_shapeColumns.length = 6 ∧ wv_row.length = 192 ∧ wv_column.length = 192 ∧ wv_below.length = 192 ∧ wv_face.length = 192 ∧ wv_worn.length = 384 ∧ wv_lastBend.length = 384 ∧ fr u_row wv_row A B9 ∧ fr u_col wv_column A B9 ∧ fr u_sR wv_shapeRows a9 b9 ∧ fr u_sC wv_shapeColumns a9 b9 ∧ lv9 v_rowsOf v_columnsOf wv_shapeRows wv_shapeColumns wv_row wv_column x1)) := by
  have m3 := (i_fl (a := v_rowsOf) (b := v_columnsOf) (by omega) (by omega) (by omega) (by omega)).2
  refine wp_of (uf_X9_startsAt _ _ _ _ _ _ _ _ _ _ _ _) ?_
  refine wp_bd6 (sf_X9_liesFlat (u_row := u_row) (u_col := u_col) (u_sR := u_sR) (u_sC := u_sC) (A := A) (B9 := B9) (a9 := a9) (b9 := b9) hN h_0 h_1 h_2 h_3 h_4 h_5 h_6 h_7 h_8 h_9 h_12 h_13 h_14 h_15 h_16 h_17 h_18 h_19 h_20 h_21) (fun w_1 w_2 w_3 w_4 w_5 w_6 ⟨q_1, q_2, q_3, q_4, q_5, q_6, q_7, q_8, q_9, q_10, q_11⟩ => ?_)
  have n_12 : (0 : Int32).toInt = 0 := by decide
  exact sf_X9_startsAt_7 (u_row := u_row) (u_col := u_col) (u_sR := u_sR) (u_sC := u_sC) (A := A) (B9 := B9) (a9 := a9) (b9 := b9) hN _ _ _ _ _ _ _ _ _ _ _ _ _ h_0 h_1 h_2 h_3 q_1 q_2 q_3 q_4 q_5 q_6 h_10 h_11 h_12 h_13 q_7 q_8 q_9 q_10 h_18 h_19 h_20 h_21 q_11 (by omega) (by omega) (by omega)

theorem uf_X9_isNew_17 (N : Nat) (n : Nat) (x3 : Int32) (v_rowsOf : Int32) (v_columnsOf : Int32) (v_folded : Int32) (v_wronged : Int32) (v_shapeRows : List Int32) (v_shapeColumns : List Int32) (v_row : List Int32) (v_column : List Int32) (v_below : List Int32) (v_face : List Int32) (v_worn : List Int32) (v_lastBend : List Int32) : fX9_isNew_17 N (n + 1) x3 v_rowsOf v_columnsOf v_folded v_wronged v_shapeRows v_shapeColumns v_row v_column v_below v_face v_worn v_lastBend = 
    if (64 : Int32) ≤ x3 then
    (some (v_rowsOf, v_columnsOf, (0 : Int32), (0 : Int32), v_shapeRows, v_shapeColumns, v_row, v_column, v_below, v_face, v_worn, v_lastBend))
    else (mm_ck (mm_inb x3 v_worn.length) (mm_nm (mm_is v_worn x3 (0 : Int32)) (fun (l_10 : List Int32) =>
    mm_ck (mm_inb x3 v_lastBend.length) (mm_nm (mm_is v_lastBend x3 (0 : Int32)) (fun (l_12 : List Int32) =>
    mm_nm (x3 + (1 : Int32)) (fun (y_13 : Int32) =>
    fX9_isNew_17 N n y_13 v_rowsOf v_columnsOf v_folded v_wronged v_shapeRows v_shapeColumns v_row v_column v_below v_face l_10 l_12)))))) := rfl

set_option maxHeartbeats 4000000 in
set_option maxRecDepth 20000 in
theorem sf_X9_isNew_17 {N : Nat} (hN : 700 ≤ N) {u_row : List Int32} {u_col : List Int32} {u_sR : List Int32} {u_sC : List Int32} {A : Int} {B9 : Int} {a9 : Int} {b9 : Int} : ∀ (n : Nat) (x3 : Int32) (v_rowsOf : Int32) (v_columnsOf : Int32) (v_folded : Int32) (v_wronged : Int32) (v_shapeRows : List Int32) (v_shapeColumns : List Int32) (v_row : List Int32) (v_column : List Int32) (v_below : List Int32) (v_face : List Int32) (v_worn : List Int32) (v_lastBend : List Int32), 1 ≤ v_rowsOf.toInt → v_rowsOf.toInt ≤ 4 → 1 ≤ v_columnsOf.toInt → v_columnsOf.toInt ≤ 8 → v_shapeRows.length = 6 → v_shapeColumns.length = 6 → v_row.length = 192 → v_column.length = 192 → v_below.length = 192 → v_face.length = 192 → v_worn.length = 384 → v_lastBend.length = 384 → fr u_row v_row A B9 → fr u_col v_column A B9 → fr u_sR v_shapeRows a9 b9 → fr u_sC v_shapeColumns a9 b9 → A ≤ 32 * (0 : Int32).toInt → 32 * (0 : Int32).toInt + 32 ≤ B9 → a9 ≤ (0 : Int32).toInt → (0 : Int32).toInt < b9 → lv9 v_rowsOf v_columnsOf v_shapeRows v_shapeColumns v_row v_column (0 : Int32) → 0 ≤ x3.toInt → x3.toInt ≤ 64 → (64 - x3.toInt).toNat < n → wp (fX9_isNew_17 N n x3 v_rowsOf v_columnsOf v_folded v_wronged v_shapeRows v_shapeColumns v_row v_column v_below v_face v_worn v_lastBend) (cu12 (fun (wv_rowsOf : Int32) (wv_columnsOf : Int32) (wv_folded : Int32) (wv_wronged : Int32) (wv_shapeRows : List Int32) (wv_shapeColumns : List Int32) (wv_row : List Int32) (wv_column : List Int32) (wv_below : List Int32) (wv_face : List Int32) (wv_worn : List Int32) (wv_lastBend : List Int32) => 1 ≤ wv_rowsOf.toInt ∧ wv_rowsOf.toInt ≤ 4 ∧ 1 ≤ wv_columnsOf.toInt ∧ wv_columnsOf.toInt ≤ 8 ∧ wv_shapeRows.length = 6 ∧ wv_shapeColumns.length = 6 ∧ wv_row.length = 192 ∧ wv_column.length = 192 ∧ wv_below.length = 192 ∧ wv_face.length = 192 ∧ wv_worn.length = 384 ∧ wv_lastBend.length = 384 ∧ fr u_row wv_row A B9 ∧ fr u_col wv_column A B9 ∧ fr u_sR wv_shapeRows a9 b9 ∧ fr u_sC wv_shapeColumns a9 b9 ∧ lv9 wv_rowsOf wv_columnsOf wv_shapeRows wv_shapeColumns wv_row wv_column (0 : Int32))) := by
  intro n
  induction n with
  | zero =>
    intro x3 v_rowsOf v_columnsOf v_folded v_wronged v_shapeRows v_shapeColumns v_row v_column v_below v_face v_worn v_lastBend h_0 h_1 h_2 h_3 h_4 h_5 h_6 h_7 h_8 h_9 h_10 h_11 h_12 h_13 h_14 h_15 h_16 h_17 h_18 h_19 h_20 h_21 h_22 hm
    exact absurd hm (by omega)
  | succ n ih =>
    intro x3 v_rowsOf v_columnsOf v_folded v_wronged v_shapeRows v_shapeColumns v_row v_column v_below v_face v_worn v_lastBend h_0 h_1 h_2 h_3 h_4 h_5 h_6 h_7 h_8 h_9 h_10 h_11 h_12 h_13 h_14 h_15 h_16 h_17 h_18 h_19 h_20 h_21 h_22 hm
    refine wp_of (uf_X9_isNew_17 _ _ _ _ _ _ _ _ _ _ _ _ _ _ _) ?_
    have n_2 : (64 : Int32).toInt = 64 := by decide
    refine wp_if (fun c_1 => ?_) (fun c_1 => ?_)
    ·
      have dc_1 := i_le c_1
      exact wp_so12 ⟨h_0, h_1, h_2, h_3, h_4, h_5, h_6, h_7, h_8, h_9, h_10, h_11, h_12, h_13, h_14, h_15, h_20⟩
    ·
      have dc_1 := i_nle c_1
      refine wp_ck (i_inb (by omega) (by omega)) ?_
      have n_3 : (0 : Int32).toInt = 0 := by decide
      refine wp_nm (fun l_10 h_l_10 => ?_)
      have nl_l_10 : l_10.length = 384 := by rw [h_l_10, is_len]; assumption
      refine wp_ck (i_inb (by omega) (by omega)) ?_
      refine wp_nm (fun l_12 h_l_12 => ?_)
      have nl_l_12 : l_12.length = 384 := by rw [h_l_12, is_len]; assumption
      have n_4 : (1 : Int32).toInt = 1 := by decide
      refine wp_nm (fun y_13 h_y_13 => ?_)
      have e_5 := i_addE h_y_13.symm (by omega) (by omega)
      exact ih _ _ _ _ _ _ _ _ _ _ _ _ _ h_0 h_1 h_2 h_3 h_4 h_5 h_6 h_7 h_8 h_9 nl_l_10 nl_l_12 h_12 h_13 h_14 h_15 h_16 h_17 h_18 h_19 h_20 (by omega) (by omega) (by omega)

theorem uf_X9_isNew (N : Nat) (x1 : Int32) (x2 : Int32) (v_rowsOf : Int32) (v_columnsOf : Int32) (v_folded : Int32) (v_wronged : Int32) (v_shapeRows : List Int32) (v_shapeColumns : List Int32) (v_row : List Int32) (v_column : List Int32) (v_below : List Int32) (v_face : List Int32) (v_worn : List Int32) (v_lastBend : List Int32) : fX9_isNew N x1 x2 v_rowsOf v_columnsOf v_folded v_wronged v_shapeRows v_shapeColumns v_row v_column v_below v_face v_worn v_lastBend = mm_bd6 (fX9_liesFlat N (0 : Int32) x1 x2 v_shapeRows v_shapeColumns v_row v_column v_below v_face) (fun (w_1 : List Int32) (w_2 : List Int32) (w_3 : List Int32) (w_4 : List Int32) (w_5 : List Int32) (w_6 : List Int32) =>
    fX9_isNew_17 N N (0 : Int32) x1 x2 v_folded v_wronged w_1 w_2 w_3 w_4 w_5 w_6 v_worn v_lastBend) := rfl

set_option maxHeartbeats 4000000 in
set_option maxRecDepth 20000 in
theorem sf_X9_isNew {N : Nat} (hN : 700 ≤ N) {u_row : List Int32} {u_col : List Int32} {u_sR : List Int32} {u_sC : List Int32} {A : Int} {B9 : Int} {a9 : Int} {b9 : Int} {x1 : Int32} {x2 : Int32} {v_rowsOf : Int32} {v_columnsOf : Int32} {v_folded : Int32} {v_wronged : Int32} {v_shapeRows : List Int32} {v_shapeColumns : List Int32} {v_row : List Int32} {v_column : List Int32} {v_below : List Int32} {v_face : List Int32} {v_worn : List Int32} {v_lastBend : List Int32} (h_0 : 1 ≤ v_rowsOf.toInt) (h_1 : v_rowsOf.toInt ≤ 4) (h_2 : 1 ≤ v_columnsOf.toInt) (h_3 : v_columnsOf.toInt ≤ 8) (h_4 : v_shapeRows.length = 6) (h_5 : v_shapeColumns.length = 6) (h_6 : v_row.length = 192) (h_7 : v_column.length = 192) (h_8 : v_below.length = 192) (h_9 : v_face.length = 192) (h_10 : v_worn.length = 384) (h_11 : v_lastBend.length = 384) (h_12 : 1 ≤ x1.toInt) (h_13 : x1.toInt ≤ 4) (h_14 : 1 ≤ x2.toInt) (h_15 : x2.toInt ≤ 8) (h_16 : fr u_row v_row A B9) (h_17 : fr u_col v_column A B9) (h_18 : fr u_sR v_shapeRows a9 b9) (h_19 : fr u_sC v_shapeColumns a9 b9) (h_20 : A ≤ 32 * (0 : Int32).toInt) (h_21 : 32 * (0 : Int32).toInt + 32 ≤ B9) (h_22 : a9 ≤ (0 : Int32).toInt) (h_23 : (0 : Int32).toInt < b9) : wp (fX9_isNew N x1 x2 v_rowsOf v_columnsOf v_folded v_wronged v_shapeRows v_shapeColumns v_row v_column v_below v_face v_worn v_lastBend) (cu12 (fun (wv_rowsOf : Int32) (wv_columnsOf : Int32) (wv_folded : Int32) (wv_wronged : Int32) (wv_shapeRows : List Int32) (wv_shapeColumns : List Int32) (wv_row : List Int32) (wv_column : List Int32) (wv_below : List Int32) (wv_face : List Int32) (wv_worn : List Int32) (wv_lastBend : List Int32) => 1 ≤ wv_rowsOf.toInt ∧ wv_rowsOf.toInt ≤ 4 ∧ 1 ≤ wv_columnsOf.toInt ∧ wv_columnsOf.toInt ≤ 8 ∧ wv_shapeRows.length = 6 ∧ wv_shapeColumns.length = 6 ∧ wv_row.length = 192 ∧ wv_column.length = 192 ∧ wv_below.length = 192 ∧ wv_face.length = 192 ∧ wv_worn.length = 384 ∧ wv_lastBend.length = 384 ∧ fr u_row wv_row A B9 ∧ fr u_col wv_column A B9 ∧ fr u_sR wv_shapeRows a9 b9 ∧ fr u_sC wv_shapeColumns a9 b9 ∧ lv9 wv_rowsOf wv_columnsOf wv_shapeRows wv_shapeColumns wv_row wv_column (0 : Int32))) := by
  refine wp_of (uf_X9_isNew _ _ _ _ _ _ _ _ _ _ _ _ _ _ _) ?_
  have n_1 : (0 : Int32).toInt = 0 := by decide
  refine wp_bd6 (sf_X9_liesFlat (u_row := u_row) (u_col := u_col) (u_sR := u_sR) (u_sC := u_sC) (A := A) (B9 := B9) (a9 := a9) (b9 := b9) hN h_12 h_13 h_14 h_15 h_4 h_5 h_6 h_7 h_8 h_9 (by omega) (by omega) h_16 h_17 h_18 h_19 h_20 h_21 h_22 h_23) (fun w_1 w_2 w_3 w_4 w_5 w_6 ⟨q_2, q_3, q_4, q_5, q_6, q_7, q_8, q_9, q_10, q_11, q_12⟩ => ?_)
  exact sf_X9_isNew_17 (u_row := u_row) (u_col := u_col) (u_sR := u_sR) (u_sC := u_sC) (A := A) (B9 := B9) (a9 := a9) (b9 := b9) hN _ _ _ _ _ _ _ _ _ _ _ _ _ _ h_12 h_13 h_14 h_15 q_2 q_3 q_4 q_5 q_6 q_7 h_10 h_11 q_8 q_9 q_10 q_11 h_20 h_21 h_22 h_23 q_12 (by omega) (by omega) (by omega)

theorem uf_X9_sheet (N : Nat) (x1 : Int32) (v_rowsOf : Int32) (v_columnsOf : Int32) (v_folded : Int32) (v_wronged : Int32) (v_shapeRows : List Int32) (v_shapeColumns : List Int32) (v_row : List Int32) (v_column : List Int32) (v_below : List Int32) (v_face : List Int32) (v_worn : List Int32) (v_lastBend : List Int32) : fX9_sheet N x1 v_rowsOf v_columnsOf v_folded v_wronged v_shapeRows v_shapeColumns v_row v_column v_below v_face v_worn v_lastBend = if x1 < 0 then
    (some ((-1 : Int32), v_rowsOf, v_columnsOf, v_folded, v_wronged, v_shapeRows, v_shapeColumns, v_row, v_column, v_below, v_face, v_worn, v_lastBend))
    else (mm_ck (mm_nz (10 : Int32)) (mm_bd1 (fX9_within N ((x1 / (10 : Int32)).toInt64) (1 : Int64) (4 : Int64)) (fun (r_3 : Bool) =>
    if r_3 = false then
    (some ((-1 : Int32), v_rowsOf, v_columnsOf, v_folded, v_wronged, v_shapeRows, v_shapeColumns, v_row, v_column, v_below, v_face, v_worn, v_lastBend))
    else (mm_ck (mm_nz (10 : Int32)) (mm_bd1 (fX9_within N ((mm_rem x1 (10 : Int32)).toInt64) (1 : Int64) (8 : Int64)) (fun (r_7 : Bool) =>
    if r_7 = false then
    (some ((-1 : Int32), v_rowsOf, v_columnsOf, v_folded, v_wronged, v_shapeRows, v_shapeColumns, v_row, v_column, v_below, v_face, v_worn, v_lastBend))
    else (mm_nm ((((10 : Int32) * v_rowsOf) + v_columnsOf)) (fun (y_10 : Int32) =>
    mm_ck (mm_nz (10 : Int32)) (mm_ck (mm_nz (10 : Int32)) (mm_bd12 (fX9_isNew N (x1 / (10 : Int32)) (mm_rem x1 (10 : Int32)) v_rowsOf v_columnsOf v_folded v_wronged v_shapeRows v_shapeColumns v_row v_column v_below v_face v_worn v_lastBend) (fun (w_13 : Int32) (w_14 : Int32) (w_15 : Int32) (w_16 : Int32) (w_17 : List Int32) (w_18 : List Int32) (w_19 : List Int32) (w_20 : List Int32) (w_21 : List Int32) (w_22 : List Int32) (w_23 : List Int32) (w_24 : List Int32) =>
    some (y_10, w_13, w_14, w_15, w_16, w_17, w_18, w_19, w_20, w_21, w_22, w_23, w_24)))))))))))) := rfl

set_option maxHeartbeats 4000000 in
set_option maxRecDepth 20000 in
theorem sf_X9_sheet {N : Nat} (hN : 700 ≤ N) {u_row : List Int32} {u_col : List Int32} {u_sR : List Int32} {u_sC : List Int32} {A : Int} {B9 : Int} {a9 : Int} {b9 : Int} {x1 : Int32} {v_rowsOf : Int32} {v_columnsOf : Int32} {v_folded : Int32} {v_wronged : Int32} {v_shapeRows : List Int32} {v_shapeColumns : List Int32} {v_row : List Int32} {v_column : List Int32} {v_below : List Int32} {v_face : List Int32} {v_worn : List Int32} {v_lastBend : List Int32} (h_0 : 1 ≤ v_rowsOf.toInt) (h_1 : v_rowsOf.toInt ≤ 4) (h_2 : 1 ≤ v_columnsOf.toInt) (h_3 : v_columnsOf.toInt ≤ 8) (h_4 : v_shapeRows.length = 6) (h_5 : v_shapeColumns.length = 6) (h_6 : v_row.length = 192) (h_7 : v_column.length = 192) (h_8 : v_below.length = 192) (h_9 : v_face.length = 192) (h_10 : v_worn.length = 384) (h_11 : v_lastBend.length = 384) (h_12 : fr u_row v_row A B9) (h_13 : fr u_col v_column A B9) (h_14 : fr u_sR v_shapeRows a9 b9) (h_15 : fr u_sC v_shapeColumns a9 b9) (h_16 : A ≤ 32 * (0 : Int32).toInt) (h_17 : 32 * (0 : Int32).toInt + 32 ≤ B9) (h_18 : a9 ≤ (0 : Int32).toInt) (h_19 : (0 : Int32).toInt < b9) (h_20 : lv9 v_rowsOf v_columnsOf v_shapeRows v_shapeColumns v_row v_column (0 : Int32)) : wp (fX9_sheet N x1 v_rowsOf v_columnsOf v_folded v_wronged v_shapeRows v_shapeColumns v_row v_column v_below v_face v_worn v_lastBend) (cu13 (fun (r : Int32) (wv_rowsOf : Int32) (wv_columnsOf : Int32) (wv_folded : Int32) (wv_wronged : Int32) (wv_shapeRows : List Int32) (wv_shapeColumns : List Int32) (wv_row : List Int32) (wv_column : List Int32) (wv_below : List Int32) (wv_face : List Int32) (wv_worn : List Int32) (wv_lastBend : List Int32) => 1 ≤ wv_rowsOf.toInt ∧ wv_rowsOf.toInt ≤ 4 ∧ 1 ≤ wv_columnsOf.toInt ∧ wv_columnsOf.toInt ≤ 8 ∧ wv_shapeRows.length = 6 ∧ wv_shapeColumns.length = 6 ∧ wv_row.length = 192 ∧ wv_column.length = 192 ∧ wv_below.length = 192 ∧ wv_face.length = 192 ∧ wv_worn.length = 384 ∧ wv_lastBend.length = 384 ∧ fr u_row wv_row A B9 ∧ fr u_col wv_column A B9 ∧ fr u_sR wv_shapeRows a9 b9 ∧ fr u_sC wv_shapeColumns a9 b9 ∧ lv9 wv_rowsOf wv_columnsOf wv_shapeRows wv_shapeColumns wv_row wv_column (0 : Int32))) := by
  refine wp_of (uf_X9_sheet _ _ _ _ _ _ _ _ _ _ _ _ _ _) ?_
  have n_2 : (0 : Int32).toInt = 0 := by decide
  refine wp_if (fun c_1 => ?_) (fun c_1 => ?_)
  ·
    have dc_1 := i_lt c_1
    exact wp_so13 ⟨h_0, h_1, h_2, h_3, h_4, h_5, h_6, h_7, h_8, h_9, h_10, h_11, h_12, h_13, h_14, h_15, h_20⟩
  ·
    have dc_1 := i_nlt c_1
    have n_3 : (10 : Int32).toInt = 10 := by decide
    refine wp_ck (i_nz (by omega)) ?_
    generalize hz_z : (x1 / (10 : Int32)) = z
    have e_4 := i_divL (c := 10) (by decide) (by decide) hz_z
    have n_5 := i_64 z
    have n_6 : (1 : Int64).toInt = 1 := by decide
    have n_7 : (4 : Int64).toInt = 4 := by decide
    refine wp_bd1 (sf_X9_within hN ) (fun r_3 q_8 => ?_)
    rcases q_8 with ⟨rfl, q_8⟩ | ⟨rfl, q_8⟩
    ·
      refine wp_ifn (by decide) ?_
      refine wp_ck (i_nz (by omega)) ?_
      generalize hz_z__9 : (mm_rem x1 (10 : Int32)) = z__9
      have e_10 := i_remL (c := 10) (by decide) (by decide) hz_z__9
      have n_11 := i_64 z__9
      have n_12 : (8 : Int64).toInt = 8 := by decide
      refine wp_bd1 (sf_X9_within hN ) (fun r_7 q_13 => ?_)
      rcases q_13 with ⟨rfl, q_13⟩ | ⟨rfl, q_13⟩
      ·
        refine wp_ifn (by decide) ?_
        generalize hz_z__14 : ((10 : Int32) * v_rowsOf) = z__14
        have e_15 := i_mulLE (c := 10) (by decide) hz_z__14 (by omega) (by omega)
        refine wp_nm (fun y_10 h_y_10 => ?_)
        have e_16 := i_addE h_y_10.symm (by omega) (by omega)
        refine wp_ck (i_nz (by omega)) ?_
        refine wp_ck (i_nz (by omega)) ?_
        refine wp_bd12 (sf_X9_isNew (u_row := u_row) (u_col := u_col) (u_sR := u_sR) (u_sC := u_sC) (A := A) (B9 := B9) (a9 := a9) (b9 := b9) hN h_0 h_1 h_2 h_3 h_4 h_5 h_6 h_7 h_8 h_9 h_10 h_11 (by omega) (by omega) (by omega) (by omega) h_12 h_13 h_14 h_15 h_16 h_17 h_18 h_19) (fun w_13 w_14 w_15 w_16 w_17 w_18 w_19 w_20 w_21 w_22 w_23 w_24 ⟨q_17, q_18, q_19, q_20, q_21, q_22, q_23, q_24, q_25, q_26, q_27, q_28, q_29, q_30, q_31, q_32, q_33⟩ => ?_)
        exact wp_so13 ⟨q_17, q_18, q_19, q_20, q_21, q_22, q_23, q_24, q_25, q_26, q_27, q_28, q_29, q_30, q_31, q_32, q_33⟩
      ·
        refine wp_ifp (by decide) ?_
        exact wp_so13 ⟨h_0, h_1, h_2, h_3, h_4, h_5, h_6, h_7, h_8, h_9, h_10, h_11, h_12, h_13, h_14, h_15, h_20⟩
    ·
      refine wp_ifp (by decide) ?_
      exact wp_so13 ⟨h_0, h_1, h_2, h_3, h_4, h_5, h_6, h_7, h_8, h_9, h_10, h_11, h_12, h_13, h_14, h_15, h_20⟩

theorem uf_X9_fold (N : Nat) (x1 : Int32) (x2 : Int32) (v_rowsOf : Int32) (v_columnsOf : Int32) (v_folded : Int32) (v_wronged : Int32) (v_textMany : Int32) (v_base : Int32) (v_at : Int32) (v_ends : Int32) (v_fault : Int32) (v_opened : Int32) (v_bentMany : Int32) (v_bentWrong : Int32) (v_moreWorn : Int32) (v_limit : List Int32) (v_shapeRows : List Int32) (v_shapeColumns : List Int32) (v_row : List Int32) (v_column : List Int32) (v_below : List Int32) (v_face : List Int32) (v_worn : List Int32) (v_lastBend : List Int32) (v_tape : List Int32) (v_text : List Int32) (v_names : List Int32) (v_bends : List Int32) (v_high : List Int32) (v_to : List Int32) (v_pileSize : List Int32) : fX9_fold N x1 x2 v_rowsOf v_columnsOf v_folded v_wronged v_textMany v_base v_at v_ends v_fault v_opened v_bentMany v_bentWrong v_moreWorn v_limit v_shapeRows v_shapeColumns v_row v_column v_below v_face v_worn v_lastBend v_tape v_text v_names v_bends v_high v_to v_pileSize = mm_bd1 (fX9_within N ((x2).toInt64) (0 : Int64) (7 : Int64)) (fun (r_1 : Bool) =>
    if r_1 = false then
    (some ((-1 : Int32), v_folded, v_wronged, v_base, v_at, v_ends, v_fault, v_opened, v_bentMany, v_bentWrong, v_moreWorn, v_shapeRows, v_shapeColumns, v_row, v_column, v_below, v_face, v_worn, v_lastBend, v_names, v_bends, v_high, v_to, v_pileSize))
    else (mm_bd1 (fX9_isLine N (0 : Int32) x1 x2 v_shapeRows v_shapeColumns) (fun (r_4 : Bool) =>
    if r_4 = false then
    (some ((-2 : Int32), v_folded, v_wronged, v_base, v_at, v_ends, v_fault, v_opened, v_bentMany, v_bentWrong, v_moreWorn, v_shapeRows, v_shapeColumns, v_row, v_column, v_below, v_face, v_worn, v_lastBend, v_names, v_bends, v_high, v_to, v_pileSize))
    else (mm_bd21 (fX9_foldsOn N (0 : Int32) x1 x2 v_rowsOf v_columnsOf v_textMany v_base v_at v_ends v_fault v_opened v_bentMany v_bentWrong v_moreWorn v_limit v_shapeRows v_shapeColumns v_row v_column v_below v_face v_worn v_lastBend v_tape v_text v_names v_bends v_high v_to v_pileSize) (fun (w_7 : Int32) (w_8 : Int32) (w_9 : Int32) (w_10 : Int32) (w_11 : Int32) (w_12 : Int32) (w_13 : Int32) (w_14 : Int32) (w_15 : List Int32) (w_16 : List Int32) (w_17 : List Int32) (w_18 : List Int32) (w_19 : List Int32) (w_20 : List Int32) (w_21 : List Int32) (w_22 : List Int32) (w_23 : List Int32) (w_24 : List Int32) (w_25 : List Int32) (w_26 : List Int32) (w_27 : List Int32) =>
    mm_nm ((v_folded + (1 : Int32))) (fun (y_29 : Int32) =>
    mm_nm ((v_wronged + w_13)) (fun (y_30 : Int32) =>
    some (w_12, y_29, y_30, w_7, w_8, w_9, w_10, w_11, w_12, w_13, w_14, w_15, w_16, w_17, w_18, w_19, w_20, w_21, w_22, w_23, w_24, w_25, w_26, w_27)))))))) := rfl

set_option maxHeartbeats 4000000 in
set_option maxRecDepth 20000 in
theorem sf_X9_fold {N : Nat} (hN : 700 ≤ N) {u_row : List Int32} {u_col : List Int32} {u_sR : List Int32} {u_sC : List Int32} {A : Int} {B9 : Int} {a9 : Int} {b9 : Int} {x1 : Int32} {x2 : Int32} {v_rowsOf : Int32} {v_columnsOf : Int32} {v_folded : Int32} {v_wronged : Int32} {v_textMany : Int32} {v_base : Int32} {v_at : Int32} {v_ends : Int32} {v_fault : Int32} {v_opened : Int32} {v_bentMany : Int32} {v_bentWrong : Int32} {v_moreWorn : Int32} {v_limit : List Int32} {v_shapeRows : List Int32} {v_shapeColumns : List Int32} {v_row : List Int32} {v_column : List Int32} {v_below : List Int32} {v_face : List Int32} {v_worn : List Int32} {v_lastBend : List Int32} {v_tape : List Int32} {v_text : List Int32} {v_names : List Int32} {v_bends : List Int32} {v_high : List Int32} {v_to : List Int32} {v_pileSize : List Int32} (h_0 : 1 ≤ v_rowsOf.toInt) (h_1 : v_rowsOf.toInt ≤ 4) (h_2 : 1 ≤ v_columnsOf.toInt) (h_3 : v_columnsOf.toInt ≤ 8) (h_4 : -1 ≤ v_textMany.toInt) (h_5 : v_textMany.toInt ≤ 120) (h_6 : v_limit.length = 1) (h_7 : v_shapeRows.length = 6) (h_8 : v_shapeColumns.length = 6) (h_9 : v_row.length = 192) (h_10 : v_column.length = 192) (h_11 : v_below.length = 192) (h_12 : v_face.length = 192) (h_13 : v_worn.length = 384) (h_14 : v_lastBend.length = 384) (h_15 : v_tape.length = 120) (h_16 : v_text.length = 120) (h_17 : v_names.length = 6) (h_18 : v_bends.length = 64) (h_19 : v_high.length = 32) (h_20 : v_to.length = 32) (h_21 : v_pileSize.length = 64) (h_22 : fr u_row v_row A B9) (h_23 : fr u_col v_column A B9) (h_24 : fr u_sR v_shapeRows a9 b9) (h_25 : fr u_sC v_shapeColumns a9 b9) (h_26 : A ≤ 32 * (0 : Int32).toInt) (h_27 : 32 * (0 : Int32).toInt + 32 ≤ B9) (h_28 : a9 ≤ (0 : Int32).toInt) (h_29 : (0 : Int32).toInt < b9) (h_30 : lv9 v_rowsOf v_columnsOf v_shapeRows v_shapeColumns v_row v_column (0 : Int32)) : wp (fX9_fold N x1 x2 v_rowsOf v_columnsOf v_folded v_wronged v_textMany v_base v_at v_ends v_fault v_opened v_bentMany v_bentWrong v_moreWorn v_limit v_shapeRows v_shapeColumns v_row v_column v_below v_face v_worn v_lastBend v_tape v_text v_names v_bends v_high v_to v_pileSize) (cu24 (fun (r : Int32) (wv_folded : Int32) (wv_wronged : Int32) (wv_base : Int32) (wv_at : Int32) (wv_ends : Int32) (wv_fault : Int32) (wv_opened : Int32) (wv_bentMany : Int32) (wv_bentWrong : Int32) (wv_moreWorn : Int32) (wv_shapeRows : List Int32) (wv_shapeColumns : List Int32) (wv_row : List Int32) (wv_column : List Int32) (wv_below : List Int32) (wv_face : List Int32) (wv_worn : List Int32) (wv_lastBend : List Int32) (wv_names : List Int32) (wv_bends : List Int32) (wv_high : List Int32) (wv_to : List Int32) (wv_pileSize : List Int32) => wv_shapeRows.length = 6 ∧ wv_shapeColumns.length = 6 ∧ wv_row.length = 192 ∧ wv_column.length = 192 ∧ wv_below.length = 192 ∧ wv_face.length = 192 ∧ wv_worn.length = 384 ∧ wv_lastBend.length = 384 ∧ wv_names.length = 6 ∧ wv_bends.length = 64 ∧ wv_high.length = 32 ∧ wv_to.length = 32 ∧ wv_pileSize.length = 64 ∧ fr u_row wv_row A B9 ∧ fr u_col wv_column A B9 ∧ fr u_sR wv_shapeRows a9 b9 ∧ fr u_sC wv_shapeColumns a9 b9 ∧ lv9 v_rowsOf v_columnsOf wv_shapeRows wv_shapeColumns wv_row wv_column (0 : Int32))) := by
  obtain ⟨l1, l2, l3, l4, l5, l6⟩ := id (show lv9 v_rowsOf v_columnsOf v_shapeRows v_shapeColumns v_row v_column (0 : Int32) by assumption)
  have n0z : (0 : Int32).toInt = 0 := by decide
  refine wp_of (uf_X9_fold _ _ _ _ _ _ _ _ _ _ _ _ _ _ _ _ _ _ _ _ _ _ _ _ _ _ _ _ _ _ _ _) ?_
  have n_1 := i_64 x2
  have n_2 : (0 : Int64).toInt = 0 := by decide
  have n_3 : (7 : Int64).toInt = 7 := by decide
  refine wp_bd1 (sf_X9_within hN ) (fun r_1 q_4 => ?_)
  rcases q_4 with ⟨rfl, q_4⟩ | ⟨rfl, q_4⟩
  ·
    refine wp_ifn (by decide) ?_
    have n_5 : (0 : Int32).toInt = 0 := by decide
    refine wp_bd1 (sf_X9_isLine hN h_7 h_8 (by omega) (by omega) (by omega) (by omega) (by omega) (by omega)) (fun r_4 q_6 => ?_)
    rcases q_6 with ⟨rfl, q_6⟩ | ⟨rfl, q_6⟩
    ·
      refine wp_ifn (by decide) ?_
      refine wp_bd21 (sf_X9_foldsOn (u_row := u_row) (u_col := u_col) (u_sR := u_sR) (u_sC := u_sC) (A := A) (B9 := B9) (a9 := a9) (b9 := b9) hN h_0 h_1 h_2 h_3 h_4 h_5 h_6 h_7 h_8 h_9 h_10 h_11 h_12 h_13 h_14 h_15 h_16 h_17 h_18 h_19 h_20 h_21 (by omega) (by omega) h_22 h_23 h_24 h_25 h_26 h_27 h_28 h_29 (by omega) (by omega) (by omega) h_30) (fun w_7 w_8 w_9 w_10 w_11 w_12 w_13 w_14 w_15 w_16 w_17 w_18 w_19 w_20 w_21 w_22 w_23 w_24 w_25 w_26 w_27 ⟨q_7, q_8, q_9, q_10, q_11, q_12, q_13, q_14, q_15, q_16, q_17, q_18, q_19, q_20, q_21, q_22, q_23, q_24⟩ => ?_)
      refine wp_nm (fun y_29 _ => ?_)
      refine wp_nm (fun y_30 _ => ?_)
      exact wp_so24 ⟨q_7, q_8, q_9, q_10, q_11, q_12, q_13, q_14, q_15, q_16, q_17, q_18, q_19, q_20, q_21, q_22, q_23, q_24⟩
    ·
      refine wp_ifp (by decide) ?_
      exact wp_so24 ⟨h_7, h_8, h_9, h_10, h_11, h_12, h_13, h_14, h_17, h_18, h_19, h_20, h_21, h_22, h_23, h_24, h_25, h_30⟩
  ·
    refine wp_ifp (by decide) ?_
    exact wp_so24 ⟨h_7, h_8, h_9, h_10, h_11, h_12, h_13, h_14, h_17, h_18, h_19, h_20, h_21, h_22, h_23, h_24, h_25, h_30⟩

theorem uf_X9_flat (N : Nat) (v_rowsOf : Int32) (v_columnsOf : Int32) (v_shapeRows : List Int32) (v_shapeColumns : List Int32) (v_row : List Int32) (v_column : List Int32) (v_below : List Int32) (v_face : List Int32) : fX9_flat N v_rowsOf v_columnsOf v_shapeRows v_shapeColumns v_row v_column v_below v_face = mm_ck (mm_inb (0 : Int32) v_shapeRows.length) (mm_ck (mm_inb (0 : Int32) v_shapeColumns.length) (mm_nm (((mm_ig v_shapeRows (0 : Int32)) * (mm_ig v_shapeColumns (0 : Int32)))) (fun (y_3 : Int32) =>
    mm_bd6 (fX9_liesFlat N (0 : Int32) v_rowsOf v_columnsOf v_shapeRows v_shapeColumns v_row v_column v_below v_face) (fun (w_4 : List Int32) (w_5 : List Int32) (w_6 : List Int32) (w_7 : List Int32) (w_8 : List Int32) (w_9 : List Int32) =>
    some (y_3, w_4, w_5, w_6, w_7, w_8, w_9))))) := rfl

set_option maxHeartbeats 4000000 in
set_option maxRecDepth 20000 in
theorem sf_X9_flat {N : Nat} (hN : 700 ≤ N) {u_row : List Int32} {u_col : List Int32} {u_sR : List Int32} {u_sC : List Int32} {A : Int} {B9 : Int} {a9 : Int} {b9 : Int} {v_rowsOf : Int32} {v_columnsOf : Int32} {v_shapeRows : List Int32} {v_shapeColumns : List Int32} {v_row : List Int32} {v_column : List Int32} {v_below : List Int32} {v_face : List Int32} (h_0 : 1 ≤ v_rowsOf.toInt) (h_1 : v_rowsOf.toInt ≤ 4) (h_2 : 1 ≤ v_columnsOf.toInt) (h_3 : v_columnsOf.toInt ≤ 8) (h_4 : v_shapeRows.length = 6) (h_5 : v_shapeColumns.length = 6) (h_6 : v_row.length = 192) (h_7 : v_column.length = 192) (h_8 : v_below.length = 192) (h_9 : v_face.length = 192) (h_10 : fr u_row v_row A B9) (h_11 : fr u_col v_column A B9) (h_12 : fr u_sR v_shapeRows a9 b9) (h_13 : fr u_sC v_shapeColumns a9 b9) (h_14 : A ≤ 32 * (0 : Int32).toInt) (h_15 : 32 * (0 : Int32).toInt + 32 ≤ B9) (h_16 : a9 ≤ (0 : Int32).toInt) (h_17 : (0 : Int32).toInt < b9) (h_18 : lv9 v_rowsOf v_columnsOf v_shapeRows v_shapeColumns v_row v_column (0 : Int32)) : wp (fX9_flat N v_rowsOf v_columnsOf v_shapeRows v_shapeColumns v_row v_column v_below v_face) (cu7 (fun (r : Int32) (wv_shapeRows : List Int32) (wv_shapeColumns : List Int32) (wv_row : List Int32) (wv_column : List Int32) (wv_below : List Int32) (wv_face : List Int32) => wv_shapeRows.length = 6 ∧ wv_shapeColumns.length = 6 ∧ wv_row.length = 192 ∧ wv_column.length = 192 ∧ wv_below.length = 192 ∧ wv_face.length = 192 ∧ fr u_row wv_row A B9 ∧ fr u_col wv_column A B9 ∧ fr u_sR wv_shapeRows a9 b9 ∧ fr u_sC wv_shapeColumns a9 b9 ∧ lv9 v_rowsOf v_columnsOf wv_shapeRows wv_shapeColumns wv_row wv_column (0 : Int32))) := by
  have n0z : (0 : Int32).toInt = 0 := by decide
  refine wp_of (uf_X9_flat _ _ _ _ _ _ _ _ _) ?_
  have n_1 : (0 : Int32).toInt = 0 := by decide
  refine wp_ck (i_inb (by omega) (by omega)) ?_
  refine wp_ck (i_inb (by omega) (by omega)) ?_
  refine wp_nm (fun y_3 _ => ?_)
  refine wp_bd6 (sf_X9_liesFlat (u_row := u_row) (u_col := u_col) (u_sR := u_sR) (u_sC := u_sC) (A := A) (B9 := B9) (a9 := a9) (b9 := b9) hN h_0 h_1 h_2 h_3 h_4 h_5 h_6 h_7 h_8 h_9 (by omega) (by omega) h_10 h_11 h_12 h_13 h_14 h_15 h_16 h_17) (fun w_4 w_5 w_6 w_7 w_8 w_9 ⟨q_2, q_3, q_4, q_5, q_6, q_7, q_8, q_9, q_10, q_11, q_12⟩ => ?_)
  exact wp_so7 ⟨q_2, q_3, q_4, q_5, q_6, q_7, q_8, q_9, q_10, q_11, q_12⟩

theorem uf_X9_goesPlan_101 (N : Nat) (k_17 : Int32 → Int32 → Int32 → Int32 → Int32 → Int32 → Int32 → Int32 → Int32 → Int32 → Int32 → Int32 → Int32 → Int32 → Int32 → Int32 → Int32 → Int32 → List Int32 → List Int32 → List Int32 → List Int32 → List Int32 → List Int32 → List Int32 → List Int32 → List Int32 → List Int32 → List Int32 → List Int32 → List Int32 → List Int32 → List Int32 → List Int32 → List Int32 → List Int32 → Option (Int32 × Int32 × Int32 × Int32 × Int32 × Int32 × Int32 × Int32 × Int32 × Int32 × Int32 × Int32 × List Int32 × List Int32 × List Int32 × List Int32 × List Int32 × List Int32 × List Int32 × List Int32 × List Int32 × List Int32 × List Int32 × List Int32 × List Int32)) (x1 : Int32) (x2 : Int32) (x3 : Int32) (s0 : Int32) (v_rowsOf : Int32) (v_columnsOf : Int32) (v_textMany : Int32) (v_base : Int32) (v_at : Int32) (v_ends : Int32) (v_fault : Int32) (v_opened : Int32) (v_bentMany : Int32) (v_bentWrong : Int32) (v_moreWorn : Int32) (v_planned : Int32) (v_allWrong : Int32) (v_allWorn : Int32) (v_z : Int32) (v_limit : List Int32) (v_shapeRows : List Int32) (v_shapeColumns : List Int32) (v_row : List Int32) (v_column : List Int32) (v_below : List Int32) (v_face : List Int32) (v_worn : List Int32) (v_lastBend : List Int32) (v_tape : List Int32) (v_text : List Int32) (v_names : List Int32) (v_bends : List Int32) (v_high : List Int32) (v_to : List Int32) (v_pileSize : List Int32) (v_planLine : List Int32) (v_planWay : List Int32) : fX9_goesPlan_101 N k_17 x1 x2 x3 s0 v_rowsOf v_columnsOf v_textMany v_base v_at v_ends v_fault v_opened v_bentMany v_bentWrong v_moreWorn v_planned v_allWrong v_allWorn v_z v_limit v_shapeRows v_shapeColumns v_row v_column v_below v_face v_worn v_lastBend v_tape v_text v_names v_bends v_high v_to v_pileSize v_planLine v_planWay = fX9_goesPlan_103 N k_17 x1 x2 x3 s0 v_rowsOf v_columnsOf v_textMany v_base v_at v_ends v_fault v_opened v_bentMany v_bentWrong v_moreWorn v_planned v_allWrong v_allWorn v_z v_limit v_shapeRows v_shapeColumns v_row v_column v_below v_face v_worn v_lastBend v_tape v_text v_names v_bends v_high v_to v_pileSize v_planLine v_planWay := rfl

theorem uf_X9_goesPlan_103 (N : Nat) (k_17 : Int32 → Int32 → Int32 → Int32 → Int32 → Int32 → Int32 → Int32 → Int32 → Int32 → Int32 → Int32 → Int32 → Int32 → Int32 → Int32 → Int32 → Int32 → List Int32 → List Int32 → List Int32 → List Int32 → List Int32 → List Int32 → List Int32 → List Int32 → List Int32 → List Int32 → List Int32 → List Int32 → List Int32 → List Int32 → List Int32 → List Int32 → List Int32 → List Int32 → Option (Int32 × Int32 × Int32 × Int32 × Int32 × Int32 × Int32 × Int32 × Int32 × Int32 × Int32 × Int32 × List Int32 × List Int32 × List Int32 × List Int32 × List Int32 × List Int32 × List Int32 × List Int32 × List Int32 × List Int32 × List Int32 × List Int32 × List Int32)) (x1 : Int32) (x2 : Int32) (x3 : Int32) (x4 : Int32) (v_rowsOf : Int32) (v_columnsOf : Int32) (v_textMany : Int32) (v_base : Int32) (v_at : Int32) (v_ends : Int32) (v_fault : Int32) (v_opened : Int32) (v_bentMany : Int32) (v_bentWrong : Int32) (v_moreWorn : Int32) (v_planned : Int32) (v_allWrong : Int32) (v_allWorn : Int32) (v_z : Int32) (v_limit : List Int32) (v_shapeRows : List Int32) (v_shapeColumns : List Int32) (v_row : List Int32) (v_column : List Int32) (v_below : List Int32) (v_face : List Int32) (v_worn : List Int32) (v_lastBend : List Int32) (v_tape : List Int32) (v_text : List Int32) (v_names : List Int32) (v_bends : List Int32) (v_high : List Int32) (v_to : List Int32) (v_pileSize : List Int32) (v_planLine : List Int32) (v_planWay : List Int32) : fX9_goesPlan_103 N k_17 x1 x2 x3 x4 v_rowsOf v_columnsOf v_textMany v_base v_at v_ends v_fault v_opened v_bentMany v_bentWrong v_moreWorn v_planned v_allWrong v_allWorn v_z v_limit v_shapeRows v_shapeColumns v_row v_column v_below v_face v_worn v_lastBend v_tape v_text v_names v_bends v_high v_to v_pileSize v_planLine v_planWay = mm_ck (mm_inb x3 v_planLine.length) (mm_bd21 (fX9_foldsOn N (1 : Int32) (mm_ig v_planLine x3) x4 v_rowsOf v_columnsOf v_textMany v_base v_at v_ends v_fault v_opened v_bentMany v_bentWrong v_moreWorn v_limit v_shapeRows v_shapeColumns v_row v_column v_below v_face v_worn v_lastBend v_tape v_text v_names v_bends v_high v_to v_pileSize) (fun (w_24 : Int32) (w_25 : Int32) (w_26 : Int32) (w_27 : Int32) (w_28 : Int32) (w_29 : Int32) (w_30 : Int32) (w_31 : Int32) (w_32 : List Int32) (w_33 : List Int32) (w_34 : List Int32) (w_35 : List Int32) (w_36 : List Int32) (w_37 : List Int32) (w_38 : List Int32) (w_39 : List Int32) (w_40 : List Int32) (w_41 : List Int32) (w_42 : List Int32) (w_43 : List Int32) (w_44 : List Int32) =>
    mm_nm ((v_allWrong + w_30)) (fun (y_46 : Int32) =>
    mm_nm ((v_allWorn + w_31)) (fun (y_47 : Int32) =>
    mm_nm (x3 + (1 : Int32)) (fun (y_48 : Int32) =>
    k_17 x1 x2 y_48 v_rowsOf v_columnsOf v_textMany w_24 w_25 w_26 w_27 w_28 w_29 w_30 w_31 v_planned y_46 y_47 v_z v_limit w_32 w_33 w_34 w_35 w_36 w_37 w_38 w_39 v_tape v_text w_40 w_41 w_42 w_43 w_44 v_planLine v_planWay))))) := rfl

theorem uf_X9_goesPlan_17 (N : Nat) (n : Nat) (x1 : Int32) (x2 : Int32) (x3 : Int32) (v_rowsOf : Int32) (v_columnsOf : Int32) (v_textMany : Int32) (v_base : Int32) (v_at : Int32) (v_ends : Int32) (v_fault : Int32) (v_opened : Int32) (v_bentMany : Int32) (v_bentWrong : Int32) (v_moreWorn : Int32) (v_planned : Int32) (v_allWrong : Int32) (v_allWorn : Int32) (v_z : Int32) (v_limit : List Int32) (v_shapeRows : List Int32) (v_shapeColumns : List Int32) (v_row : List Int32) (v_column : List Int32) (v_below : List Int32) (v_face : List Int32) (v_worn : List Int32) (v_lastBend : List Int32) (v_tape : List Int32) (v_text : List Int32) (v_names : List Int32) (v_bends : List Int32) (v_high : List Int32) (v_to : List Int32) (v_pileSize : List Int32) (v_planLine : List Int32) (v_planWay : List Int32) : fX9_goesPlan_17 N (n + 1) x1 x2 x3 v_rowsOf v_columnsOf v_textMany v_base v_at v_ends v_fault v_opened v_bentMany v_bentWrong v_moreWorn v_planned v_allWrong v_allWorn v_z v_limit v_shapeRows v_shapeColumns v_row v_column v_below v_face v_worn v_lastBend v_tape v_text v_names v_bends v_high v_to v_pileSize v_planLine v_planWay = 
    if v_planned ≤ x3 then
    (some (x3, v_base, v_at, v_ends, v_fault, v_opened, v_bentMany, v_bentWrong, v_moreWorn, v_allWrong, v_allWorn, v_z, v_shapeRows, v_shapeColumns, v_row, v_column, v_below, v_face, v_worn, v_lastBend, v_names, v_bends, v_high, v_to, v_pileSize))
    else (if x1 ≤ x3 then
    (some (x3, v_base, v_at, v_ends, v_fault, v_opened, v_bentMany, v_bentWrong, v_moreWorn, v_allWrong, v_allWorn, v_z, v_shapeRows, v_shapeColumns, v_row, v_column, v_below, v_face, v_worn, v_lastBend, v_names, v_bends, v_high, v_to, v_pileSize))
    else (mm_ck (mm_inb x3 v_planLine.length) (mm_ck (mm_inb x3 v_planWay.length) (mm_bd1 (fX9_isLine N (1 : Int32) (mm_ig v_planLine x3) (mm_ig v_planWay x3) v_shapeRows v_shapeColumns) (fun (r_14 : Bool) =>
    if r_14 = false then
    (some (x3, v_base, v_at, v_ends, v_fault, v_opened, v_bentMany, v_bentWrong, v_moreWorn, v_allWrong, v_allWorn, v_z, v_shapeRows, v_shapeColumns, v_row, v_column, v_below, v_face, v_worn, v_lastBend, v_names, v_bends, v_high, v_to, v_pileSize))
    else (mm_ck (mm_inb x3 v_planWay.length) (mm_nm ((mm_ig v_planWay x3)) (fun (y_18 : Int32) =>
    if x2 < 0 then
    (fX9_goesPlan_103 N (fX9_goesPlan_17 N n) x1 x2 x3 y_18 v_rowsOf v_columnsOf v_textMany v_base v_at v_ends v_fault v_opened v_bentMany v_bentWrong v_moreWorn v_planned v_allWrong v_allWorn v_z v_limit v_shapeRows v_shapeColumns v_row v_column v_below v_face v_worn v_lastBend v_tape v_text v_names v_bends v_high v_to v_pileSize v_planLine v_planWay)
    else (mm_nm (((v_z * (1103515245 : Int32)) + (12345 : Int32))) (fun (y_20 : Int32) =>
    mm_ck (mm_nz (100 : Int32)) (if x2 ≤ (mm_rem ((y_20.toUInt32 >>> ((8 : Int32).toUInt32 &&& Int32.toUInt32 31)).toInt32) (100 : Int32)) then
    (fX9_goesPlan_101 N (fX9_goesPlan_17 N n) x1 x2 x3 y_18 v_rowsOf v_columnsOf v_textMany v_base v_at v_ends v_fault v_opened v_bentMany v_bentWrong v_moreWorn v_planned v_allWrong v_allWorn y_20 v_limit v_shapeRows v_shapeColumns v_row v_column v_below v_face v_worn v_lastBend v_tape v_text v_names v_bends v_high v_to v_pileSize v_planLine v_planWay)
    else (fX9_goesPlan_101 N (fX9_goesPlan_17 N n) x1 x2 x3 (y_18 ^^^ (1 : Int32)) v_rowsOf v_columnsOf v_textMany v_base v_at v_ends v_fault v_opened v_bentMany v_bentWrong v_moreWorn v_planned v_allWrong v_allWorn y_20 v_limit v_shapeRows v_shapeColumns v_row v_column v_below v_face v_worn v_lastBend v_tape v_text v_names v_bends v_high v_to v_pileSize v_planLine v_planWay)))))))))))) := rfl

set_option maxHeartbeats 4000000 in
set_option maxRecDepth 20000 in
theorem sf_X9_goesPlan_17 {N : Nat} (hN : 700 ≤ N) {u_row : List Int32} {u_col : List Int32} {u_sR : List Int32} {u_sC : List Int32} {A : Int} {B9 : Int} {a9 : Int} {b9 : Int} : ∀ (n : Nat) (x1 : Int32) (x2 : Int32) (x3 : Int32) (v_rowsOf : Int32) (v_columnsOf : Int32) (v_textMany : Int32) (v_base : Int32) (v_at : Int32) (v_ends : Int32) (v_fault : Int32) (v_opened : Int32) (v_bentMany : Int32) (v_bentWrong : Int32) (v_moreWorn : Int32) (v_planned : Int32) (v_allWrong : Int32) (v_allWorn : Int32) (v_z : Int32) (v_limit : List Int32) (v_shapeRows : List Int32) (v_shapeColumns : List Int32) (v_row : List Int32) (v_column : List Int32) (v_below : List Int32) (v_face : List Int32) (v_worn : List Int32) (v_lastBend : List Int32) (v_tape : List Int32) (v_text : List Int32) (v_names : List Int32) (v_bends : List Int32) (v_high : List Int32) (v_to : List Int32) (v_pileSize : List Int32) (v_planLine : List Int32) (v_planWay : List Int32), 1 ≤ v_rowsOf.toInt → v_rowsOf.toInt ≤ 4 → 1 ≤ v_columnsOf.toInt → v_columnsOf.toInt ≤ 8 → -1 ≤ v_textMany.toInt → v_textMany.toInt ≤ 120 → 0 ≤ v_planned.toInt → v_planned.toInt ≤ 12 → v_limit.length = 1 → v_shapeRows.length = 6 → v_shapeColumns.length = 6 → v_row.length = 192 → v_column.length = 192 → v_below.length = 192 → v_face.length = 192 → v_worn.length = 384 → v_lastBend.length = 384 → v_tape.length = 120 → v_text.length = 120 → v_names.length = 6 → v_bends.length = 64 → v_high.length = 32 → v_to.length = 32 → v_pileSize.length = 64 → v_planLine.length = 12 → v_planWay.length = 12 → fr u_row v_row A B9 → fr u_col v_column A B9 → fr u_sR v_shapeRows a9 b9 → fr u_sC v_shapeColumns a9 b9 → A ≤ 32 * (1 : Int32).toInt → 32 * (1 : Int32).toInt + 32 ≤ B9 → a9 ≤ (1 : Int32).toInt → (1 : Int32).toInt < b9 → lv9 v_rowsOf v_columnsOf v_shapeRows v_shapeColumns v_row v_column (1 : Int32) → 0 ≤ x3.toInt → x3.toInt ≤ 12 → (13 - x3.toInt).toNat < n → wp (fX9_goesPlan_17 N n x1 x2 x3 v_rowsOf v_columnsOf v_textMany v_base v_at v_ends v_fault v_opened v_bentMany v_bentWrong v_moreWorn v_planned v_allWrong v_allWorn v_z v_limit v_shapeRows v_shapeColumns v_row v_column v_below v_face v_worn v_lastBend v_tape v_text v_names v_bends v_high v_to v_pileSize v_planLine v_planWay) (cu25 (fun (r : Int32) (wv_base : Int32) (wv_at : Int32) (wv_ends : Int32) (wv_fault : Int32) (wv_opened : Int32) (wv_bentMany : Int32) (wv_bentWrong : Int32) (wv_moreWorn : Int32) (wv_allWrong : Int32) (wv_allWorn : Int32) (wv_z : Int32) (wv_shapeRows : List Int32) (wv_shapeColumns : List Int32) (wv_row : List Int32) (wv_column : List Int32) (wv_below : List Int32) (wv_face : List Int32) (wv_worn : List Int32) (wv_lastBend : List Int32) (wv_names : List Int32) (wv_bends : List Int32) (wv_high : List Int32) (wv_to : List Int32) (wv_pileSize : List Int32) => wv_shapeRows.length = 6 ∧ wv_shapeColumns.length = 6 ∧ wv_row.length = 192 ∧ wv_column.length = 192 ∧ wv_below.length = 192 ∧ wv_face.length = 192 ∧ wv_worn.length = 384 ∧ wv_lastBend.length = 384 ∧ wv_names.length = 6 ∧ wv_bends.length = 64 ∧ wv_high.length = 32 ∧ wv_to.length = 32 ∧ wv_pileSize.length = 64 ∧ fr u_row wv_row A B9 ∧ fr u_col wv_column A B9 ∧ fr u_sR wv_shapeRows a9 b9 ∧ fr u_sC wv_shapeColumns a9 b9 ∧ lv9 v_rowsOf v_columnsOf wv_shapeRows wv_shapeColumns wv_row wv_column (1 : Int32))) := by
  intro n
  induction n with
  | zero =>
    intro x1 x2 x3 v_rowsOf v_columnsOf v_textMany v_base v_at v_ends v_fault v_opened v_bentMany v_bentWrong v_moreWorn v_planned v_allWrong v_allWorn v_z v_limit v_shapeRows v_shapeColumns v_row v_column v_below v_face v_worn v_lastBend v_tape v_text v_names v_bends v_high v_to v_pileSize v_planLine v_planWay h_0 h_1 h_2 h_3 h_4 h_5 h_6 h_7 h_8 h_9 h_10 h_11 h_12 h_13 h_14 h_15 h_16 h_17 h_18 h_19 h_20 h_21 h_22 h_23 h_24 h_25 h_26 h_27 h_28 h_29 h_30 h_31 h_32 h_33 h_34 h_35 h_36 hm
    exact absurd hm (by omega)
  | succ n ih =>
    intro x1 x2 x3 v_rowsOf v_columnsOf v_textMany v_base v_at v_ends v_fault v_opened v_bentMany v_bentWrong v_moreWorn v_planned v_allWrong v_allWorn v_z v_limit v_shapeRows v_shapeColumns v_row v_column v_below v_face v_worn v_lastBend v_tape v_text v_names v_bends v_high v_to v_pileSize v_planLine v_planWay h_0 h_1 h_2 h_3 h_4 h_5 h_6 h_7 h_8 h_9 h_10 h_11 h_12 h_13 h_14 h_15 h_16 h_17 h_18 h_19 h_20 h_21 h_22 h_23 h_24 h_25 h_26 h_27 h_28 h_29 h_30 h_31 h_32 h_33 h_34 h_35 h_36 hm
    obtain ⟨l1, l2, l3, l4, l5, l6⟩ := id (show lv9 v_rowsOf v_columnsOf v_shapeRows v_shapeColumns v_row v_column (1 : Int32) by assumption)
    have n1z : (1 : Int32).toInt = 1 := by decide
    refine wp_of (uf_X9_goesPlan_17 _ _ _ _ _ _ _ _ _ _ _ _ _ _ _ _ _ _ _ _ _ _ _ _ _ _ _ _ _ _ _ _ _ _ _ _ _ _) ?_
    refine wp_if (fun c_1 => ?_) (fun c_1 => ?_)
    ·
      have dc_1 := i_le c_1
      exact wp_so25 ⟨h_9, h_10, h_11, h_12, h_13, h_14, h_15, h_16, h_19, h_20, h_21, h_22, h_23, h_26, h_27, h_28, h_29, h_34⟩
    ·
      have dc_1 := i_nle c_1
      refine wp_if (fun c_2 => ?_) (fun c_2 => ?_)
      ·
        have dc_2 := i_le c_2
        exact wp_so25 ⟨h_9, h_10, h_11, h_12, h_13, h_14, h_15, h_16, h_19, h_20, h_21, h_22, h_23, h_26, h_27, h_28, h_29, h_34⟩
      ·
        have dc_2 := i_nle c_2
        refine wp_ck (i_inb (by omega) (by omega)) ?_
        refine wp_ck (i_inb (by omega) (by omega)) ?_
        have n_3 : (1 : Int32).toInt = 1 := by decide
        refine wp_bd1 (sf_X9_isLine hN h_9 h_10 (by omega) (by omega) (by omega) (by omega) (by omega) (by omega)) (fun r_14 q_4 => ?_)
        rcases q_4 with ⟨rfl, q_4⟩ | ⟨rfl, q_4⟩
        ·
          refine wp_ifn (by decide) ?_
          refine wp_ck (i_inb (by omega) (by omega)) ?_
          refine wp_nm (fun y_18 h_y_18 => ?_)
          have t_y_18 : y_18.toInt = ((mm_ig v_planWay x3)).toInt := by rw [h_y_18]
          have n_6 : (0 : Int32).toInt = 0 := by decide
          refine wp_if (fun c_5 => ?_) (fun c_5 => ?_)
          ·
            have dc_5 := i_lt c_5
            refine wp_of (uf_X9_goesPlan_103 _ _ _ _ _ _ _ _ _ _ _ _ _ _ _ _ _ _ _ _ _ _ _ _ _ _ _ _ _ _ _ _ _ _ _ _ _ _ _) ?_
            refine wp_ck (i_inb (by omega) (by omega)) ?_
            refine wp_bd21 (sf_X9_foldsOn (u_row := u_row) (u_col := u_col) (u_sR := u_sR) (u_sC := u_sC) (A := A) (B9 := B9) (a9 := a9) (b9 := b9) hN h_0 h_1 h_2 h_3 h_4 h_5 h_8 h_9 h_10 h_11 h_12 h_13 h_14 h_15 h_16 h_17 h_18 h_19 h_20 h_21 h_22 h_23 (by omega) (by omega) h_26 h_27 h_28 h_29 h_30 h_31 h_32 h_33 (by omega) (by omega) (by omega) h_34) (fun w_24 w_25 w_26 w_27 w_28 w_29 w_30 w_31 w_32 w_33 w_34 w_35 w_36 w_37 w_38 w_39 w_40 w_41 w_42 w_43 w_44 ⟨q_7, q_8, q_9, q_10, q_11, q_12, q_13, q_14, q_15, q_16, q_17, q_18, q_19, q_20, q_21, q_22, q_23, q_24⟩ => ?_)
            refine wp_nm (fun y_46 _ => ?_)
            refine wp_nm (fun y_47 _ => ?_)
            refine wp_nm (fun y_48 h_y_48 => ?_)
            have e_25 := i_addE h_y_48.symm (by omega) (by omega)
            exact ih _ _ _ _ _ _ _ _ _ _ _ _ _ _ _ _ _ _ _ _ _ _ _ _ _ _ _ _ _ _ _ _ _ _ _ _ h_0 h_1 h_2 h_3 h_4 h_5 h_6 h_7 h_8 q_7 q_8 q_9 q_10 q_11 q_12 q_13 q_14 h_17 h_18 q_15 q_16 q_17 q_18 q_19 h_24 h_25 q_20 q_21 q_22 q_23 h_30 h_31 h_32 h_33 q_24 (by omega) (by omega) (by omega)
          ·
            have dc_5 := i_nlt c_5
            refine wp_nm (fun y_20 _ => ?_)
            have n_26 : (100 : Int32).toInt = 100 := by decide
            refine wp_ck (i_nz (by omega)) ?_
            generalize hz_z : (mm_rem ((y_20.toUInt32 >>> (((8 : Int32)).toUInt32 &&& (Int32.toUInt32 31)))).toInt32 (100 : Int32)) = z
            have e_28 := i_remL (c := 100) (by decide) (by decide) hz_z
            refine wp_if (fun c_27 => ?_) (fun c_27 => ?_)
            ·
              have dc_27 := i_le c_27
              refine wp_of (uf_X9_goesPlan_101 _ _ _ _ _ _ _ _ _ _ _ _ _ _ _ _ _ _ _ _ _ _ _ _ _ _ _ _ _ _ _ _ _ _ _ _ _ _ _) ?_
              refine wp_of (uf_X9_goesPlan_103 _ _ _ _ _ _ _ _ _ _ _ _ _ _ _ _ _ _ _ _ _ _ _ _ _ _ _ _ _ _ _ _ _ _ _ _ _ _ _) ?_
              refine wp_ck (i_inb (by omega) (by omega)) ?_
              refine wp_bd21 (sf_X9_foldsOn (u_row := u_row) (u_col := u_col) (u_sR := u_sR) (u_sC := u_sC) (A := A) (B9 := B9) (a9 := a9) (b9 := b9) hN h_0 h_1 h_2 h_3 h_4 h_5 h_8 h_9 h_10 h_11 h_12 h_13 h_14 h_15 h_16 h_17 h_18 h_19 h_20 h_21 h_22 h_23 (by omega) (by omega) h_26 h_27 h_28 h_29 h_30 h_31 h_32 h_33 (by omega) (by omega) (by omega) h_34) (fun w_24__29 w_25__30 w_26__31 w_27__32 w_28__33 w_29__34 w_30__35 w_31__36 w_32__37 w_33__38 w_34__39 w_35__40 w_36__41 w_37__42 w_38__43 w_39__44 w_40__45 w_41__46 w_42__47 w_43__48 w_44__49 ⟨q_50, q_51, q_52, q_53, q_54, q_55, q_56, q_57, q_58, q_59, q_60, q_61, q_62, q_63, q_64, q_65, q_66, q_67⟩ => ?_)
              refine wp_nm (fun y_46__68 _ => ?_)
              refine wp_nm (fun y_47__69 _ => ?_)
              refine wp_nm (fun y_48__70 h_y_48__70 => ?_)
              have e_71 := i_addE h_y_48__70.symm (by omega) (by omega)
              exact ih _ _ _ _ _ _ _ _ _ _ _ _ _ _ _ _ _ _ _ _ _ _ _ _ _ _ _ _ _ _ _ _ _ _ _ _ h_0 h_1 h_2 h_3 h_4 h_5 h_6 h_7 h_8 q_50 q_51 q_52 q_53 q_54 q_55 q_56 q_57 h_17 h_18 q_58 q_59 q_60 q_61 q_62 h_24 h_25 q_63 q_64 q_65 q_66 h_30 h_31 h_32 h_33 q_67 (by omega) (by omega) (by omega)
            ·
              have dc_27 := i_nle c_27
              refine wp_of (uf_X9_goesPlan_101 _ _ _ _ _ _ _ _ _ _ _ _ _ _ _ _ _ _ _ _ _ _ _ _ _ _ _ _ _ _ _ _ _ _ _ _ _ _ _) ?_
              refine wp_of (uf_X9_goesPlan_103 _ _ _ _ _ _ _ _ _ _ _ _ _ _ _ _ _ _ _ _ _ _ _ _ _ _ _ _ _ _ _ _ _ _ _ _ _ _ _) ?_
              refine wp_ck (i_inb (by omega) (by omega)) ?_
              have hx_72 := x1_lt4 y_18
              refine wp_bd21 (sf_X9_foldsOn (u_row := u_row) (u_col := u_col) (u_sR := u_sR) (u_sC := u_sC) (A := A) (B9 := B9) (a9 := a9) (b9 := b9) hN h_0 h_1 h_2 h_3 h_4 h_5 h_8 h_9 h_10 h_11 h_12 h_13 h_14 h_15 h_16 h_17 h_18 h_19 h_20 h_21 h_22 h_23 (by omega) (by omega) h_26 h_27 h_28 h_29 h_30 h_31 h_32 h_33 (by omega) (by omega) (by omega) h_34) (fun w_24__73 w_25__74 w_26__75 w_27__76 w_28__77 w_29__78 w_30__79 w_31__80 w_32__81 w_33__82 w_34__83 w_35__84 w_36__85 w_37__86 w_38__87 w_39__88 w_40__89 w_41__90 w_42__91 w_43__92 w_44__93 ⟨q_94, q_95, q_96, q_97, q_98, q_99, q_100, q_101, q_102, q_103, q_104, q_105, q_106, q_107, q_108, q_109, q_110, q_111⟩ => ?_)
              refine wp_nm (fun y_46__112 _ => ?_)
              refine wp_nm (fun y_47__113 _ => ?_)
              refine wp_nm (fun y_48__114 h_y_48__114 => ?_)
              have e_115 := i_addE h_y_48__114.symm (by omega) (by omega)
              exact ih _ _ _ _ _ _ _ _ _ _ _ _ _ _ _ _ _ _ _ _ _ _ _ _ _ _ _ _ _ _ _ _ _ _ _ _ h_0 h_1 h_2 h_3 h_4 h_5 h_6 h_7 h_8 q_94 q_95 q_96 q_97 q_98 q_99 q_100 q_101 h_17 h_18 q_102 q_103 q_104 q_105 q_106 h_24 h_25 q_107 q_108 q_109 q_110 h_30 h_31 h_32 h_33 q_111 (by omega) (by omega) (by omega)
        ·
          refine wp_ifp (by decide) ?_
          exact wp_so25 ⟨h_9, h_10, h_11, h_12, h_13, h_14, h_15, h_16, h_19, h_20, h_21, h_22, h_23, h_26, h_27, h_28, h_29, h_34⟩

theorem uf_X9_goesPlan (N : Nat) (x1 : Int32) (x2 : Int32) (v_rowsOf : Int32) (v_columnsOf : Int32) (v_textMany : Int32) (v_base : Int32) (v_at : Int32) (v_ends : Int32) (v_fault : Int32) (v_opened : Int32) (v_bentMany : Int32) (v_bentWrong : Int32) (v_moreWorn : Int32) (v_planned : Int32) (v_allWrong : Int32) (v_allWorn : Int32) (v_z : Int32) (v_limit : List Int32) (v_shapeRows : List Int32) (v_shapeColumns : List Int32) (v_row : List Int32) (v_column : List Int32) (v_below : List Int32) (v_face : List Int32) (v_worn : List Int32) (v_lastBend : List Int32) (v_tape : List Int32) (v_text : List Int32) (v_names : List Int32) (v_bends : List Int32) (v_high : List Int32) (v_to : List Int32) (v_pileSize : List Int32) (v_planLine : List Int32) (v_planWay : List Int32) : fX9_goesPlan N x1 x2 v_rowsOf v_columnsOf v_textMany v_base v_at v_ends v_fault v_opened v_bentMany v_bentWrong v_moreWorn v_planned v_allWrong v_allWorn v_z v_limit v_shapeRows v_shapeColumns v_row v_column v_below v_face v_worn v_lastBend v_tape v_text v_names v_bends v_high v_to v_pileSize v_planLine v_planWay = mm_bd8 (fX9_startsAt N (1 : Int32) v_rowsOf v_columnsOf v_shapeRows v_shapeColumns v_row v_column v_below v_face v_worn v_lastBend) (fun (w_1 : List Int32) (w_2 : List Int32) (w_3 : List Int32) (w_4 : List Int32) (w_5 : List Int32) (w_6 : List Int32) (w_7 : List Int32) (w_8 : List Int32) =>
    fX9_goesPlan_17 N N x1 x2 (0 : Int32) v_rowsOf v_columnsOf v_textMany v_base v_at v_ends v_fault v_opened v_bentMany v_bentWrong v_moreWorn v_planned (0 : Int32) (0 : Int32) v_z v_limit w_1 w_2 w_3 w_4 w_5 w_6 w_7 w_8 v_tape v_text v_names v_bends v_high v_to v_pileSize v_planLine v_planWay) := rfl

set_option maxHeartbeats 4000000 in
set_option maxRecDepth 20000 in
theorem sf_X9_goesPlan {N : Nat} (hN : 700 ≤ N) {u_row : List Int32} {u_col : List Int32} {u_sR : List Int32} {u_sC : List Int32} {A : Int} {B9 : Int} {a9 : Int} {b9 : Int} {x1 : Int32} {x2 : Int32} {v_rowsOf : Int32} {v_columnsOf : Int32} {v_textMany : Int32} {v_base : Int32} {v_at : Int32} {v_ends : Int32} {v_fault : Int32} {v_opened : Int32} {v_bentMany : Int32} {v_bentWrong : Int32} {v_moreWorn : Int32} {v_planned : Int32} {v_allWrong : Int32} {v_allWorn : Int32} {v_z : Int32} {v_limit : List Int32} {v_shapeRows : List Int32} {v_shapeColumns : List Int32} {v_row : List Int32} {v_column : List Int32} {v_below : List Int32} {v_face : List Int32} {v_worn : List Int32} {v_lastBend : List Int32} {v_tape : List Int32} {v_text : List Int32} {v_names : List Int32} {v_bends : List Int32} {v_high : List Int32} {v_to : List Int32} {v_pileSize : List Int32} {v_planLine : List Int32} {v_planWay : List Int32} (h_0 : 1 ≤ v_rowsOf.toInt) (h_1 : v_rowsOf.toInt ≤ 4) (h_2 : 1 ≤ v_columnsOf.toInt) (h_3 : v_columnsOf.toInt ≤ 8) (h_4 : -1 ≤ v_textMany.toInt) (h_5 : v_textMany.toInt ≤ 120) (h_6 : 0 ≤ v_planned.toInt) (h_7 : v_planned.toInt ≤ 12) (h_8 : v_limit.length = 1) (h_9 : v_shapeRows.length = 6) (h_10 : v_shapeColumns.length = 6) (h_11 : v_row.length = 192) (h_12 : v_column.length = 192) (h_13 : v_below.length = 192) (h_14 : v_face.length = 192) (h_15 : v_worn.length = 384) (h_16 : v_lastBend.length = 384) (h_17 : v_tape.length = 120) (h_18 : v_text.length = 120) (h_19 : v_names.length = 6) (h_20 : v_bends.length = 64) (h_21 : v_high.length = 32) (h_22 : v_to.length = 32) (h_23 : v_pileSize.length = 64) (h_24 : v_planLine.length = 12) (h_25 : v_planWay.length = 12) (h_26 : fr u_row v_row A B9) (h_27 : fr u_col v_column A B9) (h_28 : fr u_sR v_shapeRows a9 b9) (h_29 : fr u_sC v_shapeColumns a9 b9) (h_30 : A ≤ 32 * (1 : Int32).toInt) (h_31 : 32 * (1 : Int32).toInt + 32 ≤ B9) (h_32 : a9 ≤ (1 : Int32).toInt) (h_33 : (1 : Int32).toInt < b9) : wp (fX9_goesPlan N x1 x2 v_rowsOf v_columnsOf v_textMany v_base v_at v_ends v_fault v_opened v_bentMany v_bentWrong v_moreWorn v_planned v_allWrong v_allWorn v_z v_limit v_shapeRows v_shapeColumns v_row v_column v_below v_face v_worn v_lastBend v_tape v_text v_names v_bends v_high v_to v_pileSize v_planLine v_planWay) (cu25 (fun (r : Int32) (wv_base : Int32) (wv_at : Int32) (wv_ends : Int32) (wv_fault : Int32) (wv_opened : Int32) (wv_bentMany : Int32) (wv_bentWrong : Int32) (wv_moreWorn : Int32) (wv_allWrong : Int32) (wv_allWorn : Int32) (wv_z : Int32) (wv_shapeRows : List Int32) (wv_shapeColumns : List Int32) (wv_row : List Int32) (wv_column : List Int32) (wv_below : List Int32) (wv_face : List Int32) (wv_worn : List Int32) (wv_lastBend : List Int32) (wv_names : List Int32) (wv_bends : List Int32) (wv_high : List Int32) (wv_to : List Int32) (wv_pileSize : List Int32) => wv_shapeRows.length = 6 ∧ wv_shapeColumns.length = 6 ∧ wv_row.length = 192 ∧ wv_column.length = 192 ∧ wv_below.length = 192 ∧ wv_face.length = 192 ∧ wv_worn.length = 384 ∧ wv_lastBend.length = 384 ∧ wv_names.length = 6 ∧ wv_bends.length = 64 ∧ wv_high.length = 32 ∧ wv_to.length = 32 ∧ wv_pileSize.length = 64 ∧ fr u_row wv_row A B9 ∧ fr u_col wv_column A B9 ∧ fr u_sR wv_shapeRows a9 b9 ∧ fr u_sC wv_shapeColumns a9 b9 ∧ lv9 v_rowsOf v_columnsOf wv_shapeRows wv_shapeColumns wv_row wv_column (1 : Int32))) := by
  have n1z : (1 : Int32).toInt = 1 := by decide
  refine wp_of (uf_X9_goesPlan _ _ _ _ _ _ _ _ _ _ _ _ _ _ _ _ _ _ _ _ _ _ _ _ _ _ _ _ _ _ _ _ _ _ _ _) ?_
  have n_1 : (1 : Int32).toInt = 1 := by decide
  refine wp_bd8 (sf_X9_startsAt (u_row := u_row) (u_col := u_col) (u_sR := u_sR) (u_sC := u_sC) (A := A) (B9 := B9) (a9 := a9) (b9 := b9) hN h_0 h_1 h_2 h_3 h_9 h_10 h_11 h_12 h_13 h_14 h_15 h_16 (by omega) (by omega) h_26 h_27 h_28 h_29 h_30 h_31 h_32 h_33) (fun w_1 w_2 w_3 w_4 w_5 w_6 w_7 w_8 ⟨q_2, q_3, q_4, q_5, q_6, q_7, q_8, q_9, q_10, q_11, q_12, q_13, q_14⟩ => ?_)
  have n_15 : (0 : Int32).toInt = 0 := by decide
  exact sf_X9_goesPlan_17 (u_row := u_row) (u_col := u_col) (u_sR := u_sR) (u_sC := u_sC) (A := A) (B9 := B9) (a9 := a9) (b9 := b9) hN _ _ _ _ _ _ _ _ _ _ _ _ _ _ _ _ _ _ _ _ _ _ _ _ _ _ _ _ _ _ _ _ _ _ _ _ _ h_0 h_1 h_2 h_3 h_4 h_5 h_6 h_7 h_8 q_2 q_3 q_4 q_5 q_6 q_7 q_8 q_9 h_17 h_18 h_19 h_20 h_21 h_22 h_23 h_24 h_25 q_10 q_11 q_12 q_13 h_30 h_31 h_32 h_33 q_14 (by omega) (by omega) (by omega)

theorem uf_X9_isBehind (N : Nat) (x1 : Int32) (v_rowsOf : Int32) (v_columnsOf : Int32) (v_textMany : Int32) (v_base : Int32) (v_at : Int32) (v_ends : Int32) (v_fault : Int32) (v_opened : Int32) (v_bentMany : Int32) (v_bentWrong : Int32) (v_moreWorn : Int32) (v_planned : Int32) (v_allWrong : Int32) (v_allWorn : Int32) (v_z : Int32) (v_limit : List Int32) (v_shapeRows : List Int32) (v_shapeColumns : List Int32) (v_row : List Int32) (v_column : List Int32) (v_below : List Int32) (v_face : List Int32) (v_worn : List Int32) (v_lastBend : List Int32) (v_tape : List Int32) (v_text : List Int32) (v_names : List Int32) (v_bends : List Int32) (v_high : List Int32) (v_to : List Int32) (v_pileSize : List Int32) (v_planLine : List Int32) (v_planWay : List Int32) : fX9_isBehind N x1 v_rowsOf v_columnsOf v_textMany v_base v_at v_ends v_fault v_opened v_bentMany v_bentWrong v_moreWorn v_planned v_allWrong v_allWorn v_z v_limit v_shapeRows v_shapeColumns v_row v_column v_below v_face v_worn v_lastBend v_tape v_text v_names v_bends v_high v_to v_pileSize v_planLine v_planWay = if x1 < 0 then
    (some (false, v_base, v_at, v_ends, v_fault, v_opened, v_bentMany, v_bentWrong, v_moreWorn, v_allWrong, v_allWorn, v_z, v_shapeRows, v_shapeColumns, v_row, v_column, v_below, v_face, v_worn, v_lastBend, v_names, v_bends, v_high, v_to, v_pileSize))
    else (mm_bd25 (fX9_goesPlan N x1 (-1 : Int32) v_rowsOf v_columnsOf v_textMany v_base v_at v_ends v_fault v_opened v_bentMany v_bentWrong v_moreWorn v_planned v_allWrong v_allWorn v_z v_limit v_shapeRows v_shapeColumns v_row v_column v_below v_face v_worn v_lastBend v_tape v_text v_names v_bends v_high v_to v_pileSize v_planLine v_planWay) (fun (r_2 : Int32) (w_3 : Int32) (w_4 : Int32) (w_5 : Int32) (w_6 : Int32) (w_7 : Int32) (w_8 : Int32) (w_9 : Int32) (w_10 : Int32) (w_11 : Int32) (w_12 : Int32) (w_13 : Int32) (w_14 : List Int32) (w_15 : List Int32) (w_16 : List Int32) (w_17 : List Int32) (w_18 : List Int32) (w_19 : List Int32) (w_20 : List Int32) (w_21 : List Int32) (w_22 : List Int32) (w_23 : List Int32) (w_24 : List Int32) (w_25 : List Int32) (w_26 : List Int32) =>
    if r_2 = x1 then
    (some (true, w_3, w_4, w_5, w_6, w_7, w_8, w_9, w_10, w_11, w_12, w_13, w_14, w_15, w_16, w_17, w_18, w_19, w_20, w_21, w_22, w_23, w_24, w_25, w_26))
    else (some (false, w_3, w_4, w_5, w_6, w_7, w_8, w_9, w_10, w_11, w_12, w_13, w_14, w_15, w_16, w_17, w_18, w_19, w_20, w_21, w_22, w_23, w_24, w_25, w_26)))) := rfl

set_option maxHeartbeats 4000000 in
set_option maxRecDepth 20000 in
theorem sf_X9_isBehind {N : Nat} (hN : 700 ≤ N) {u_row : List Int32} {u_col : List Int32} {u_sR : List Int32} {u_sC : List Int32} {A : Int} {B9 : Int} {a9 : Int} {b9 : Int} {x1 : Int32} {v_rowsOf : Int32} {v_columnsOf : Int32} {v_textMany : Int32} {v_base : Int32} {v_at : Int32} {v_ends : Int32} {v_fault : Int32} {v_opened : Int32} {v_bentMany : Int32} {v_bentWrong : Int32} {v_moreWorn : Int32} {v_planned : Int32} {v_allWrong : Int32} {v_allWorn : Int32} {v_z : Int32} {v_limit : List Int32} {v_shapeRows : List Int32} {v_shapeColumns : List Int32} {v_row : List Int32} {v_column : List Int32} {v_below : List Int32} {v_face : List Int32} {v_worn : List Int32} {v_lastBend : List Int32} {v_tape : List Int32} {v_text : List Int32} {v_names : List Int32} {v_bends : List Int32} {v_high : List Int32} {v_to : List Int32} {v_pileSize : List Int32} {v_planLine : List Int32} {v_planWay : List Int32} (h_0 : 1 ≤ v_rowsOf.toInt) (h_1 : v_rowsOf.toInt ≤ 4) (h_2 : 1 ≤ v_columnsOf.toInt) (h_3 : v_columnsOf.toInt ≤ 8) (h_4 : -1 ≤ v_textMany.toInt) (h_5 : v_textMany.toInt ≤ 120) (h_6 : 0 ≤ v_planned.toInt) (h_7 : v_planned.toInt ≤ 12) (h_8 : v_limit.length = 1) (h_9 : v_shapeRows.length = 6) (h_10 : v_shapeColumns.length = 6) (h_11 : v_row.length = 192) (h_12 : v_column.length = 192) (h_13 : v_below.length = 192) (h_14 : v_face.length = 192) (h_15 : v_worn.length = 384) (h_16 : v_lastBend.length = 384) (h_17 : v_tape.length = 120) (h_18 : v_text.length = 120) (h_19 : v_names.length = 6) (h_20 : v_bends.length = 64) (h_21 : v_high.length = 32) (h_22 : v_to.length = 32) (h_23 : v_pileSize.length = 64) (h_24 : v_planLine.length = 12) (h_25 : v_planWay.length = 12) (h_26 : fr u_row v_row A B9) (h_27 : fr u_col v_column A B9) (h_28 : fr u_sR v_shapeRows a9 b9) (h_29 : fr u_sC v_shapeColumns a9 b9) (h_30 : A ≤ 32 * (1 : Int32).toInt) (h_31 : 32 * (1 : Int32).toInt + 32 ≤ B9) (h_32 : a9 ≤ (1 : Int32).toInt) (h_33 : (1 : Int32).toInt < b9) : wp (fX9_isBehind N x1 v_rowsOf v_columnsOf v_textMany v_base v_at v_ends v_fault v_opened v_bentMany v_bentWrong v_moreWorn v_planned v_allWrong v_allWorn v_z v_limit v_shapeRows v_shapeColumns v_row v_column v_below v_face v_worn v_lastBend v_tape v_text v_names v_bends v_high v_to v_pileSize v_planLine v_planWay) (cu25 (fun (r : Bool) (wv_base : Int32) (wv_at : Int32) (wv_ends : Int32) (wv_fault : Int32) (wv_opened : Int32) (wv_bentMany : Int32) (wv_bentWrong : Int32) (wv_moreWorn : Int32) (wv_allWrong : Int32) (wv_allWorn : Int32) (wv_z : Int32) (wv_shapeRows : List Int32) (wv_shapeColumns : List Int32) (wv_row : List Int32) (wv_column : List Int32) (wv_below : List Int32) (wv_face : List Int32) (wv_worn : List Int32) (wv_lastBend : List Int32) (wv_names : List Int32) (wv_bends : List Int32) (wv_high : List Int32) (wv_to : List Int32) (wv_pileSize : List Int32) => wv_shapeRows.length = 6 ∧ wv_shapeColumns.length = 6 ∧ wv_row.length = 192 ∧ wv_column.length = 192 ∧ wv_below.length = 192 ∧ wv_face.length = 192 ∧ wv_worn.length = 384 ∧ wv_lastBend.length = 384 ∧ wv_names.length = 6 ∧ wv_bends.length = 64 ∧ wv_high.length = 32 ∧ wv_to.length = 32 ∧ wv_pileSize.length = 64 ∧ fr u_row wv_row A B9 ∧ fr u_col wv_column A B9 ∧ fr u_sR wv_shapeRows a9 b9 ∧ fr u_sC wv_shapeColumns a9 b9)) := by
  refine wp_of (uf_X9_isBehind _ _ _ _ _ _ _ _ _ _ _ _ _ _ _ _ _ _ _ _ _ _ _ _ _ _ _ _ _ _ _ _ _ _ _) ?_
  have n_2 : (0 : Int32).toInt = 0 := by decide
  refine wp_if (fun c_1 => ?_) (fun c_1 => ?_)
  ·
    have dc_1 := i_lt c_1
    exact wp_so25 ⟨h_9, h_10, h_11, h_12, h_13, h_14, h_15, h_16, h_19, h_20, h_21, h_22, h_23, h_26, h_27, h_28, h_29⟩
  ·
    have dc_1 := i_nlt c_1
    refine wp_bd25 (sf_X9_goesPlan (u_row := u_row) (u_col := u_col) (u_sR := u_sR) (u_sC := u_sC) (A := A) (B9 := B9) (a9 := a9) (b9 := b9) hN h_0 h_1 h_2 h_3 h_4 h_5 h_6 h_7 h_8 h_9 h_10 h_11 h_12 h_13 h_14 h_15 h_16 h_17 h_18 h_19 h_20 h_21 h_22 h_23 h_24 h_25 h_26 h_27 h_28 h_29 h_30 h_31 h_32 h_33) (fun r_2 w_3 w_4 w_5 w_6 w_7 w_8 w_9 w_10 w_11 w_12 w_13 w_14 w_15 w_16 w_17 w_18 w_19 w_20 w_21 w_22 w_23 w_24 w_25 w_26 ⟨q_3, q_4, q_5, q_6, q_7, q_8, q_9, q_10, q_11, q_12, q_13, q_14, q_15, q_16, q_17, q_18, q_19, q_20⟩ => ?_)
    refine wp_if (fun c_21 => ?_) (fun c_21 => ?_)
    ·
      have dc_21 := i_eq c_21
      exact wp_so25 ⟨q_3, q_4, q_5, q_6, q_7, q_8, q_9, q_10, q_11, q_12, q_13, q_14, q_15, q_16, q_17, q_18, q_19⟩
    ·
      have dc_21 := i_ne c_21
      exact wp_so25 ⟨q_3, q_4, q_5, q_6, q_7, q_8, q_9, q_10, q_11, q_12, q_13, q_14, q_15, q_16, q_17, q_18, q_19⟩
end
section
/-! safe -/
theorem uf_X9_cost (N : Nat) (x1 : Int32) (v_rowsOf : Int32) (v_columnsOf : Int32) (v_textMany : Int32) (v_base : Int32) (v_at : Int32) (v_ends : Int32) (v_fault : Int32) (v_opened : Int32) (v_bentMany : Int32) (v_bentWrong : Int32) (v_moreWorn : Int32) (v_planned : Int32) (v_allWrong : Int32) (v_allWorn : Int32) (v_z : Int32) (v_limit : List Int32) (v_shapeRows : List Int32) (v_shapeColumns : List Int32) (v_row : List Int32) (v_column : List Int32) (v_below : List Int32) (v_face : List Int32) (v_worn : List Int32) (v_lastBend : List Int32) (v_tape : List Int32) (v_text : List Int32) (v_names : List Int32) (v_bends : List Int32) (v_high : List Int32) (v_to : List Int32) (v_pileSize : List Int32) (v_planLine : List Int32) (v_planWay : List Int32) : fX9_cost N x1 v_rowsOf v_columnsOf v_textMany v_base v_at v_ends v_fault v_opened v_bentMany v_bentWrong v_moreWorn v_planned v_allWrong v_allWorn v_z v_limit v_shapeRows v_shapeColumns v_row v_column v_below v_face v_worn v_lastBend v_tape v_text v_names v_bends v_high v_to v_pileSize v_planLine v_planWay = mm_bd1 (fX9_within N ((x1).toInt64) (0 : Int64) (3 : Int64)) (fun (r_1 : Bool) =>
    if r_1 = false then
    (some ((-1 : Int32), v_base, v_at, v_ends, v_fault, v_opened, v_bentMany, v_bentWrong, v_moreWorn, v_allWrong, v_allWorn, v_z, v_shapeRows, v_shapeColumns, v_row, v_column, v_below, v_face, v_worn, v_lastBend, v_names, v_bends, v_high, v_to, v_pileSize))
    else (mm_bd25 (fX9_goesPlan N (12 : Int32) (-1 : Int32) v_rowsOf v_columnsOf v_textMany v_base v_at v_ends v_fault v_opened v_bentMany v_bentWrong v_moreWorn v_planned v_allWrong v_allWorn v_z v_limit v_shapeRows v_shapeColumns v_row v_column v_below v_face v_worn v_lastBend v_tape v_text v_names v_bends v_high v_to v_pileSize v_planLine v_planWay) (fun (r_4 : Int32) (w_5 : Int32) (w_6 : Int32) (w_7 : Int32) (w_8 : Int32) (w_9 : Int32) (w_10 : Int32) (w_11 : Int32) (w_12 : Int32) (w_13 : Int32) (w_14 : Int32) (w_15 : Int32) (w_16 : List Int32) (w_17 : List Int32) (w_18 : List Int32) (w_19 : List Int32) (w_20 : List Int32) (w_21 : List Int32) (w_22 : List Int32) (w_23 : List Int32) (w_24 : List Int32) (w_25 : List Int32) (w_26 : List Int32) (w_27 : List Int32) (w_28 : List Int32) =>
    if x1 = 0 then
    (some (r_4, w_5, w_6, w_7, w_8, w_9, w_10, w_11, w_12, w_13, w_14, w_15, w_16, w_17, w_18, w_19, w_20, w_21, w_22, w_23, w_24, w_25, w_26, w_27, w_28))
    else (if x1 = (1 : Int32) then
    (some (w_14, w_5, w_6, w_7, w_8, w_9, w_10, w_11, w_12, w_13, w_14, w_15, w_16, w_17, w_18, w_19, w_20, w_21, w_22, w_23, w_24, w_25, w_26, w_27, w_28))
    else (if x1 = (2 : Int32) then
    (some (w_13, w_5, w_6, w_7, w_8, w_9, w_10, w_11, w_12, w_13, w_14, w_15, w_16, w_17, w_18, w_19, w_20, w_21, w_22, w_23, w_24, w_25, w_26, w_27, w_28))
    else (mm_bd1 (fX9_tornNow N (1 : Int32) v_rowsOf v_columnsOf v_limit w_22) (fun (r_33 : Int32) =>
    mm_bd1 (fX9_tornNow N (0 : Int32) v_rowsOf v_columnsOf v_limit w_22) (fun (r_35 : Int32) =>
    some ((r_33 - r_35), w_5, w_6, w_7, w_8, w_9, w_10, w_11, w_12, w_13, w_14, w_15, w_16, w_17, w_18, w_19, w_20, w_21, w_22, w_23, w_24, w_25, w_26, w_27, w_28))))))))) := rfl

set_option maxHeartbeats 4000000 in
set_option maxRecDepth 20000 in
theorem sf_X9_cost {N : Nat} (hN : 700 ≤ N) {u_row : List Int32} {u_col : List Int32} {u_sR : List Int32} {u_sC : List Int32} {A : Int} {B9 : Int} {a9 : Int} {b9 : Int} {x1 : Int32} {v_rowsOf : Int32} {v_columnsOf : Int32} {v_textMany : Int32} {v_base : Int32} {v_at : Int32} {v_ends : Int32} {v_fault : Int32} {v_opened : Int32} {v_bentMany : Int32} {v_bentWrong : Int32} {v_moreWorn : Int32} {v_planned : Int32} {v_allWrong : Int32} {v_allWorn : Int32} {v_z : Int32} {v_limit : List Int32} {v_shapeRows : List Int32} {v_shapeColumns : List Int32} {v_row : List Int32} {v_column : List Int32} {v_below : List Int32} {v_face : List Int32} {v_worn : List Int32} {v_lastBend : List Int32} {v_tape : List Int32} {v_text : List Int32} {v_names : List Int32} {v_bends : List Int32} {v_high : List Int32} {v_to : List Int32} {v_pileSize : List Int32} {v_planLine : List Int32} {v_planWay : List Int32} (h_0 : 1 ≤ v_rowsOf.toInt) (h_1 : v_rowsOf.toInt ≤ 4) (h_2 : 1 ≤ v_columnsOf.toInt) (h_3 : v_columnsOf.toInt ≤ 8) (h_4 : -1 ≤ v_textMany.toInt) (h_5 : v_textMany.toInt ≤ 120) (h_6 : 0 ≤ v_planned.toInt) (h_7 : v_planned.toInt ≤ 12) (h_8 : v_limit.length = 1) (h_9 : v_shapeRows.length = 6) (h_10 : v_shapeColumns.length = 6) (h_11 : v_row.length = 192) (h_12 : v_column.length = 192) (h_13 : v_below.length = 192) (h_14 : v_face.length = 192) (h_15 : v_worn.length = 384) (h_16 : v_lastBend.length = 384) (h_17 : v_tape.length = 120) (h_18 : v_text.length = 120) (h_19 : v_names.length = 6) (h_20 : v_bends.length = 64) (h_21 : v_high.length = 32) (h_22 : v_to.length = 32) (h_23 : v_pileSize.length = 64) (h_24 : v_planLine.length = 12) (h_25 : v_planWay.length = 12) (h_26 : fr u_row v_row A B9) (h_27 : fr u_col v_column A B9) (h_28 : fr u_sR v_shapeRows a9 b9) (h_29 : fr u_sC v_shapeColumns a9 b9) (h_30 : A ≤ 32 * (1 : Int32).toInt) (h_31 : 32 * (1 : Int32).toInt + 32 ≤ B9) (h_32 : a9 ≤ (1 : Int32).toInt) (h_33 : (1 : Int32).toInt < b9) : wp (fX9_cost N x1 v_rowsOf v_columnsOf v_textMany v_base v_at v_ends v_fault v_opened v_bentMany v_bentWrong v_moreWorn v_planned v_allWrong v_allWorn v_z v_limit v_shapeRows v_shapeColumns v_row v_column v_below v_face v_worn v_lastBend v_tape v_text v_names v_bends v_high v_to v_pileSize v_planLine v_planWay) (cu25 (fun (r : Int32) (wv_base : Int32) (wv_at : Int32) (wv_ends : Int32) (wv_fault : Int32) (wv_opened : Int32) (wv_bentMany : Int32) (wv_bentWrong : Int32) (wv_moreWorn : Int32) (wv_allWrong : Int32) (wv_allWorn : Int32) (wv_z : Int32) (wv_shapeRows : List Int32) (wv_shapeColumns : List Int32) (wv_row : List Int32) (wv_column : List Int32) (wv_below : List Int32) (wv_face : List Int32) (wv_worn : List Int32) (wv_lastBend : List Int32) (wv_names : List Int32) (wv_bends : List Int32) (wv_high : List Int32) (wv_to : List Int32) (wv_pileSize : List Int32) => wv_shapeRows.length = 6 ∧ wv_shapeColumns.length = 6 ∧ wv_row.length = 192 ∧ wv_column.length = 192 ∧ wv_below.length = 192 ∧ wv_face.length = 192 ∧ wv_worn.length = 384 ∧ wv_lastBend.length = 384 ∧ wv_names.length = 6 ∧ wv_bends.length = 64 ∧ wv_high.length = 32 ∧ wv_to.length = 32 ∧ wv_pileSize.length = 64 ∧ fr u_row wv_row A B9 ∧ fr u_col wv_column A B9 ∧ fr u_sR wv_shapeRows a9 b9 ∧ fr u_sC wv_shapeColumns a9 b9)) := by
  have m3 := (i_fl (a := v_rowsOf) (b := v_columnsOf) (by omega) (by omega) (by omega) (by omega)).2
  have n1z : (1 : Int32).toInt = 1 := by decide
  refine wp_of (uf_X9_cost _ _ _ _ _ _ _ _ _ _ _ _ _ _ _ _ _ _ _ _ _ _ _ _ _ _ _ _ _ _ _ _ _ _ _) ?_
  have n_1 := i_64 x1
  have n_2 : (0 : Int64).toInt = 0 := by decide
  have n_3 : (3 : Int64).toInt = 3 := by decide
  refine wp_bd1 (sf_X9_within hN ) (fun r_1 q_4 => ?_)
  rcases q_4 with ⟨rfl, q_4⟩ | ⟨rfl, q_4⟩
  ·
    refine wp_ifn (by decide) ?_
    refine wp_bd25 (sf_X9_goesPlan (u_row := u_row) (u_col := u_col) (u_sR := u_sR) (u_sC := u_sC) (A := A) (B9 := B9) (a9 := a9) (b9 := b9) hN h_0 h_1 h_2 h_3 h_4 h_5 h_6 h_7 h_8 h_9 h_10 h_11 h_12 h_13 h_14 h_15 h_16 h_17 h_18 h_19 h_20 h_21 h_22 h_23 h_24 h_25 h_26 h_27 h_28 h_29 h_30 h_31 h_32 h_33) (fun r_4 w_5 w_6 w_7 w_8 w_9 w_10 w_11 w_12 w_13 w_14 w_15 w_16 w_17 w_18 w_19 w_20 w_21 w_22 w_23 w_24 w_25 w_26 w_27 w_28 ⟨q_5, q_6, q_7, q_8, q_9, q_10, q_11, q_12, q_13, q_14, q_15, q_16, q_17, q_18, q_19, q_20, q_21, q_22⟩ => ?_)
    have n_24 : (0 : Int32).toInt = 0 := by decide
    refine wp_if (fun c_23 => ?_) (fun c_23 => ?_)
    ·
      have dc_23 := i_eq c_23
      exact wp_so25 ⟨q_5, q_6, q_7, q_8, q_9, q_10, q_11, q_12, q_13, q_14, q_15, q_16, q_17, q_18, q_19, q_20, q_21⟩
    ·
      have dc_23 := i_ne c_23
      have n_26 : (1 : Int32).toInt = 1 := by decide
      refine wp_if (fun c_25 => ?_) (fun c_25 => ?_)
      ·
        have dc_25 := i_eq c_25
        exact wp_so25 ⟨q_5, q_6, q_7, q_8, q_9, q_10, q_11, q_12, q_13, q_14, q_15, q_16, q_17, q_18, q_19, q_20, q_21⟩
      ·
        have dc_25 := i_ne c_25
        have n_28 : (2 : Int32).toInt = 2 := by decide
        refine wp_if (fun c_27 => ?_) (fun c_27 => ?_)
        ·
          have dc_27 := i_eq c_27
          exact wp_so25 ⟨q_5, q_6, q_7, q_8, q_9, q_10, q_11, q_12, q_13, q_14, q_15, q_16, q_17, q_18, q_19, q_20, q_21⟩
        ·
          have dc_27 := i_ne c_27
          refine wp_bd1 (sf_X9_tornNow hN h_0 h_1 h_2 h_3 h_8 q_11 (by omega) (by omega)) (fun r_33 _ => ?_)
          refine wp_bd1 (sf_X9_tornNow hN h_0 h_1 h_2 h_3 h_8 q_11 (by omega) (by omega)) (fun r_35 _ => ?_)
          exact wp_so25 ⟨q_5, q_6, q_7, q_8, q_9, q_10, q_11, q_12, q_13, q_14, q_15, q_16, q_17, q_18, q_19, q_20, q_21⟩
  ·
    refine wp_ifp (by decide) ?_
    exact wp_so25 ⟨h_9, h_10, h_11, h_12, h_13, h_14, h_15, h_16, h_19, h_20, h_21, h_22, h_23, h_26, h_27, h_28, h_29⟩

theorem uf_X9_lies (N : Nat) (x1 : Int32) (x2 : Int32) (v_rowsOf : Int32) (v_columnsOf : Int32) (v_textMany : Int32) (v_base : Int32) (v_at : Int32) (v_ends : Int32) (v_fault : Int32) (v_opened : Int32) (v_bentMany : Int32) (v_bentWrong : Int32) (v_moreWorn : Int32) (v_planned : Int32) (v_allWrong : Int32) (v_allWorn : Int32) (v_z : Int32) (v_limit : List Int32) (v_shapeRows : List Int32) (v_shapeColumns : List Int32) (v_row : List Int32) (v_column : List Int32) (v_below : List Int32) (v_face : List Int32) (v_worn : List Int32) (v_lastBend : List Int32) (v_tape : List Int32) (v_text : List Int32) (v_names : List Int32) (v_bends : List Int32) (v_high : List Int32) (v_to : List Int32) (v_pileSize : List Int32) (v_planLine : List Int32) (v_planWay : List Int32) : fX9_lies N x1 x2 v_rowsOf v_columnsOf v_textMany v_base v_at v_ends v_fault v_opened v_bentMany v_bentWrong v_moreWorn v_planned v_allWrong v_allWorn v_z v_limit v_shapeRows v_shapeColumns v_row v_column v_below v_face v_worn v_lastBend v_tape v_text v_names v_bends v_high v_to v_pileSize v_planLine v_planWay = if x1 < 0 then
    (some ((-1 : Int32), v_base, v_at, v_ends, v_fault, v_opened, v_bentMany, v_bentWrong, v_moreWorn, v_allWrong, v_allWorn, v_z, v_shapeRows, v_shapeColumns, v_row, v_column, v_below, v_face, v_worn, v_lastBend, v_names, v_bends, v_high, v_to, v_pileSize))
    else (mm_ck (mm_nz (100 : Int32)) (mm_bd1 (fX9_isField N (x1 / (100 : Int32)) v_rowsOf v_columnsOf) (fun (r_3 : Bool) =>
    if r_3 = false then
    (some ((-1 : Int32), v_base, v_at, v_ends, v_fault, v_opened, v_bentMany, v_bentWrong, v_moreWorn, v_allWrong, v_allWorn, v_z, v_shapeRows, v_shapeColumns, v_row, v_column, v_below, v_face, v_worn, v_lastBend, v_names, v_bends, v_high, v_to, v_pileSize))
    else (mm_bd1 (fX9_within N ((x2).toInt64) (0 : Int64) (3 : Int64)) (fun (r_6 : Bool) =>
    if r_6 = false then
    (some ((-1 : Int32), v_base, v_at, v_ends, v_fault, v_opened, v_bentMany, v_bentWrong, v_moreWorn, v_allWrong, v_allWorn, v_z, v_shapeRows, v_shapeColumns, v_row, v_column, v_below, v_face, v_worn, v_lastBend, v_names, v_bends, v_high, v_to, v_pileSize))
    else (mm_ck (mm_nz (100 : Int32)) (mm_bd25 (fX9_isBehind N (mm_rem x1 (100 : Int32)) v_rowsOf v_columnsOf v_textMany v_base v_at v_ends v_fault v_opened v_bentMany v_bentWrong v_moreWorn v_planned v_allWrong v_allWorn v_z v_limit v_shapeRows v_shapeColumns v_row v_column v_below v_face v_worn v_lastBend v_tape v_text v_names v_bends v_high v_to v_pileSize v_planLine v_planWay) (fun (r_10 : Bool) (w_11 : Int32) (w_12 : Int32) (w_13 : Int32) (w_14 : Int32) (w_15 : Int32) (w_16 : Int32) (w_17 : Int32) (w_18 : Int32) (w_19 : Int32) (w_20 : Int32) (w_21 : Int32) (w_22 : List Int32) (w_23 : List Int32) (w_24 : List Int32) (w_25 : List Int32) (w_26 : List Int32) (w_27 : List Int32) (w_28 : List Int32) (w_29 : List Int32) (w_30 : List Int32) (w_31 : List Int32) (w_32 : List Int32) (w_33 : List Int32) (w_34 : List Int32) =>
    if r_10 = false then
    (some ((-1 : Int32), w_11, w_12, w_13, w_14, w_15, w_16, w_17, w_18, w_19, w_20, w_21, w_22, w_23, w_24, w_25, w_26, w_27, w_28, w_29, w_30, w_31, w_32, w_33, w_34))
    else (mm_ck (mm_nz (100 : Int32)) (mm_bd1 (fX9_whereOf N (1 : Int32) (x1 / (100 : Int32)) x2 w_24 w_25 w_26 w_27) (fun (r_38 : Int32) =>
    some (r_38, w_11, w_12, w_13, w_14, w_15, w_16, w_17, w_18, w_19, w_20, w_21, w_22, w_23, w_24, w_25, w_26, w_27, w_28, w_29, w_30, w_31, w_32, w_33, w_34)))))))))))) := rfl

set_option maxHeartbeats 4000000 in
set_option maxRecDepth 20000 in
theorem sf_X9_lies {N : Nat} (hN : 700 ≤ N) {u_row : List Int32} {u_col : List Int32} {u_sR : List Int32} {u_sC : List Int32} {A : Int} {B9 : Int} {a9 : Int} {b9 : Int} {x1 : Int32} {x2 : Int32} {v_rowsOf : Int32} {v_columnsOf : Int32} {v_textMany : Int32} {v_base : Int32} {v_at : Int32} {v_ends : Int32} {v_fault : Int32} {v_opened : Int32} {v_bentMany : Int32} {v_bentWrong : Int32} {v_moreWorn : Int32} {v_planned : Int32} {v_allWrong : Int32} {v_allWorn : Int32} {v_z : Int32} {v_limit : List Int32} {v_shapeRows : List Int32} {v_shapeColumns : List Int32} {v_row : List Int32} {v_column : List Int32} {v_below : List Int32} {v_face : List Int32} {v_worn : List Int32} {v_lastBend : List Int32} {v_tape : List Int32} {v_text : List Int32} {v_names : List Int32} {v_bends : List Int32} {v_high : List Int32} {v_to : List Int32} {v_pileSize : List Int32} {v_planLine : List Int32} {v_planWay : List Int32} (h_0 : 1 ≤ v_rowsOf.toInt) (h_1 : v_rowsOf.toInt ≤ 4) (h_2 : 1 ≤ v_columnsOf.toInt) (h_3 : v_columnsOf.toInt ≤ 8) (h_4 : -1 ≤ v_textMany.toInt) (h_5 : v_textMany.toInt ≤ 120) (h_6 : 0 ≤ v_planned.toInt) (h_7 : v_planned.toInt ≤ 12) (h_8 : v_limit.length = 1) (h_9 : v_shapeRows.length = 6) (h_10 : v_shapeColumns.length = 6) (h_11 : v_row.length = 192) (h_12 : v_column.length = 192) (h_13 : v_below.length = 192) (h_14 : v_face.length = 192) (h_15 : v_worn.length = 384) (h_16 : v_lastBend.length = 384) (h_17 : v_tape.length = 120) (h_18 : v_text.length = 120) (h_19 : v_names.length = 6) (h_20 : v_bends.length = 64) (h_21 : v_high.length = 32) (h_22 : v_to.length = 32) (h_23 : v_pileSize.length = 64) (h_24 : v_planLine.length = 12) (h_25 : v_planWay.length = 12) (h_26 : fr u_row v_row A B9) (h_27 : fr u_col v_column A B9) (h_28 : fr u_sR v_shapeRows a9 b9) (h_29 : fr u_sC v_shapeColumns a9 b9) (h_30 : A ≤ 32 * (1 : Int32).toInt) (h_31 : 32 * (1 : Int32).toInt + 32 ≤ B9) (h_32 : a9 ≤ (1 : Int32).toInt) (h_33 : (1 : Int32).toInt < b9) : wp (fX9_lies N x1 x2 v_rowsOf v_columnsOf v_textMany v_base v_at v_ends v_fault v_opened v_bentMany v_bentWrong v_moreWorn v_planned v_allWrong v_allWorn v_z v_limit v_shapeRows v_shapeColumns v_row v_column v_below v_face v_worn v_lastBend v_tape v_text v_names v_bends v_high v_to v_pileSize v_planLine v_planWay) (cu25 (fun (r : Int32) (wv_base : Int32) (wv_at : Int32) (wv_ends : Int32) (wv_fault : Int32) (wv_opened : Int32) (wv_bentMany : Int32) (wv_bentWrong : Int32) (wv_moreWorn : Int32) (wv_allWrong : Int32) (wv_allWorn : Int32) (wv_z : Int32) (wv_shapeRows : List Int32) (wv_shapeColumns : List Int32) (wv_row : List Int32) (wv_column : List Int32) (wv_below : List Int32) (wv_face : List Int32) (wv_worn : List Int32) (wv_lastBend : List Int32) (wv_names : List Int32) (wv_bends : List Int32) (wv_high : List Int32) (wv_to : List Int32) (wv_pileSize : List Int32) => wv_shapeRows.length = 6 ∧ wv_shapeColumns.length = 6 ∧ wv_row.length = 192 ∧ wv_column.length = 192 ∧ wv_below.length = 192 ∧ wv_face.length = 192 ∧ wv_worn.length = 384 ∧ wv_lastBend.length = 384 ∧ wv_names.length = 6 ∧ wv_bends.length = 64 ∧ wv_high.length = 32 ∧ wv_to.length = 32 ∧ wv_pileSize.length = 64 ∧ fr u_row wv_row A B9 ∧ fr u_col wv_column A B9 ∧ fr u_sR wv_shapeRows a9 b9 ∧ fr u_sC wv_shapeColumns a9 b9)) := by
  have m3 := (i_fl (a := v_rowsOf) (b := v_columnsOf) (by omega) (by omega) (by omega) (by omega)).2
  have n1z : (1 : Int32).toInt = 1 := by decide
  have hx1 : x1.toInt < 2147483648 := Int32.toInt_lt x1
  have hx2 : x2.toInt < 2147483648 := Int32.toInt_lt x2
  refine wp_of (uf_X9_lies _ _ _ _ _ _ _ _ _ _ _ _ _ _ _ _ _ _ _ _ _ _ _ _ _ _ _ _ _ _ _ _ _ _ _ _) ?_
  have n_2 : (0 : Int32).toInt = 0 := by decide
  refine wp_if (fun c_1 => ?_) (fun c_1 => ?_)
  ·
    have dc_1 := i_lt c_1
    exact wp_so25 ⟨h_9, h_10, h_11, h_12, h_13, h_14, h_15, h_16, h_19, h_20, h_21, h_22, h_23, h_26, h_27, h_28, h_29⟩
  ·
    have dc_1 := i_nlt c_1
    have n_3 : (100 : Int32).toInt = 100 := by decide
    refine wp_ck (i_nz (by omega)) ?_
    generalize hz_z : (x1 / (100 : Int32)) = z
    have e_4 := i_divL (c := 100) (by decide) (by decide) hz_z
    refine wp_bd1 (sf_X9_isField hN h_0 h_1 h_2 h_3) (fun r_3 q_5 => ?_)
    rcases q_5 with ⟨rfl, q_5⟩ | ⟨rfl, q_5⟩
    ·
      refine wp_ifn (by decide) ?_
      have n_6 := i_64 x2
      have n_7 : (0 : Int64).toInt = 0 := by decide
      have n_8 : (3 : Int64).toInt = 3 := by decide
      refine wp_bd1 (sf_X9_within hN ) (fun r_6 q_9 => ?_)
      rcases q_9 with ⟨rfl, q_9⟩ | ⟨rfl, q_9⟩
      ·
        refine wp_ifn (by decide) ?_
        refine wp_ck (i_nz (by omega)) ?_
        refine wp_bd25 (sf_X9_isBehind (u_row := u_row) (u_col := u_col) (u_sR := u_sR) (u_sC := u_sC) (A := A) (B9 := B9) (a9 := a9) (b9 := b9) hN h_0 h_1 h_2 h_3 h_4 h_5 h_6 h_7 h_8 h_9 h_10 h_11 h_12 h_13 h_14 h_15 h_16 h_17 h_18 h_19 h_20 h_21 h_22 h_23 h_24 h_25 h_26 h_27 h_28 h_29 h_30 h_31 h_32 h_33) (fun r_10 w_11 w_12 w_13 w_14 w_15 w_16 w_17 w_18 w_19 w_20 w_21 w_22 w_23 w_24 w_25 w_26 w_27 w_28 w_29 w_30 w_31 w_32 w_33 w_34 ⟨q_10, q_11, q_12, q_13, q_14, q_15, q_16, q_17, q_18, q_19, q_20, q_21, q_22, q_23, q_24, q_25, q_26⟩ => ?_)
        refine wp_if (fun c_27 => ?_) (fun c_27 => ?_)
        ·
          exact wp_so25 ⟨q_10, q_11, q_12, q_13, q_14, q_15, q_16, q_17, q_18, q_19, q_20, q_21, q_22, q_23, q_24, q_25, q_26⟩
        ·
          refine wp_ck (i_nz (by omega)) ?_
          have n_28 : (1 : Int32).toInt = 1 := by decide
          refine wp_bd1 (sf_X9_whereOf hN q_12 q_13 q_14 q_15 (by omega) (by omega) (by omega) (by omega)) (fun r_38 _ => ?_)
          exact wp_so25 ⟨q_10, q_11, q_12, q_13, q_14, q_15, q_16, q_17, q_18, q_19, q_20, q_21, q_22, q_23, q_24, q_25, q_26⟩
      ·
        refine wp_ifp (by decide) ?_
        exact wp_so25 ⟨h_9, h_10, h_11, h_12, h_13, h_14, h_15, h_16, h_19, h_20, h_21, h_22, h_23, h_26, h_27, h_28, h_29⟩
    ·
      refine wp_ifp (by decide) ?_
      exact wp_so25 ⟨h_9, h_10, h_11, h_12, h_13, h_14, h_15, h_16, h_19, h_20, h_21, h_22, h_23, h_26, h_27, h_28, h_29⟩

theorem uf_X9_top (N : Nat) (x1 : Int32) (x2 : Int32) (v_rowsOf : Int32) (v_columnsOf : Int32) (v_textMany : Int32) (v_base : Int32) (v_at : Int32) (v_ends : Int32) (v_fault : Int32) (v_opened : Int32) (v_bentMany : Int32) (v_bentWrong : Int32) (v_moreWorn : Int32) (v_planned : Int32) (v_allWrong : Int32) (v_allWorn : Int32) (v_z : Int32) (v_limit : List Int32) (v_shapeRows : List Int32) (v_shapeColumns : List Int32) (v_row : List Int32) (v_column : List Int32) (v_below : List Int32) (v_face : List Int32) (v_worn : List Int32) (v_lastBend : List Int32) (v_tape : List Int32) (v_text : List Int32) (v_names : List Int32) (v_bends : List Int32) (v_high : List Int32) (v_to : List Int32) (v_pileSize : List Int32) (v_planLine : List Int32) (v_planWay : List Int32) : fX9_top N x1 x2 v_rowsOf v_columnsOf v_textMany v_base v_at v_ends v_fault v_opened v_bentMany v_bentWrong v_moreWorn v_planned v_allWrong v_allWorn v_z v_limit v_shapeRows v_shapeColumns v_row v_column v_below v_face v_worn v_lastBend v_tape v_text v_names v_bends v_high v_to v_pileSize v_planLine v_planWay = mm_bd25 (fX9_isBehind N x1 v_rowsOf v_columnsOf v_textMany v_base v_at v_ends v_fault v_opened v_bentMany v_bentWrong v_moreWorn v_planned v_allWrong v_allWorn v_z v_limit v_shapeRows v_shapeColumns v_row v_column v_below v_face v_worn v_lastBend v_tape v_text v_names v_bends v_high v_to v_pileSize v_planLine v_planWay) (fun (r_1 : Bool) (w_2 : Int32) (w_3 : Int32) (w_4 : Int32) (w_5 : Int32) (w_6 : Int32) (w_7 : Int32) (w_8 : Int32) (w_9 : Int32) (w_10 : Int32) (w_11 : Int32) (w_12 : Int32) (w_13 : List Int32) (w_14 : List Int32) (w_15 : List Int32) (w_16 : List Int32) (w_17 : List Int32) (w_18 : List Int32) (w_19 : List Int32) (w_20 : List Int32) (w_21 : List Int32) (w_22 : List Int32) (w_23 : List Int32) (w_24 : List Int32) (w_25 : List Int32) =>
    if r_1 = false then
    (some ((-1 : Int32), w_2, w_3, w_4, w_5, w_6, w_7, w_8, w_9, w_10, w_11, w_12, w_13, w_14, w_15, w_16, w_17, w_18, w_19, w_20, w_21, w_22, w_23, w_24, w_25))
    else (mm_bd1 (fX9_isPile N (1 : Int32) x2 w_13 w_14) (fun (r_28 : Bool) =>
    if r_28 = false then
    (some ((-1 : Int32), w_2, w_3, w_4, w_5, w_6, w_7, w_8, w_9, w_10, w_11, w_12, w_13, w_14, w_15, w_16, w_17, w_18, w_19, w_20, w_21, w_22, w_23, w_24, w_25))
    else (mm_ck (mm_nz (10 : Int32)) (mm_ck (mm_nz (10 : Int32)) (mm_bd1 (fX9_topOf N (1 : Int32) (x2 / (10 : Int32)) (mm_rem x2 (10 : Int32)) v_rowsOf v_columnsOf w_15 w_16 w_17) (fun (r_33 : Int32) =>
    some (r_33, w_2, w_3, w_4, w_5, w_6, w_7, w_8, w_9, w_10, w_11, w_12, w_13, w_14, w_15, w_16, w_17, w_18, w_19, w_20, w_21, w_22, w_23, w_24, w_25)))))))) := rfl

set_option maxHeartbeats 4000000 in
set_option maxRecDepth 20000 in
theorem sf_X9_top {N : Nat} (hN : 700 ≤ N) {u_row : List Int32} {u_col : List Int32} {u_sR : List Int32} {u_sC : List Int32} {A : Int} {B9 : Int} {a9 : Int} {b9 : Int} {x1 : Int32} {x2 : Int32} {v_rowsOf : Int32} {v_columnsOf : Int32} {v_textMany : Int32} {v_base : Int32} {v_at : Int32} {v_ends : Int32} {v_fault : Int32} {v_opened : Int32} {v_bentMany : Int32} {v_bentWrong : Int32} {v_moreWorn : Int32} {v_planned : Int32} {v_allWrong : Int32} {v_allWorn : Int32} {v_z : Int32} {v_limit : List Int32} {v_shapeRows : List Int32} {v_shapeColumns : List Int32} {v_row : List Int32} {v_column : List Int32} {v_below : List Int32} {v_face : List Int32} {v_worn : List Int32} {v_lastBend : List Int32} {v_tape : List Int32} {v_text : List Int32} {v_names : List Int32} {v_bends : List Int32} {v_high : List Int32} {v_to : List Int32} {v_pileSize : List Int32} {v_planLine : List Int32} {v_planWay : List Int32} (h_0 : 1 ≤ v_rowsOf.toInt) (h_1 : v_rowsOf.toInt ≤ 4) (h_2 : 1 ≤ v_columnsOf.toInt) (h_3 : v_columnsOf.toInt ≤ 8) (h_4 : -1 ≤ v_textMany.toInt) (h_5 : v_textMany.toInt ≤ 120) (h_6 : 0 ≤ v_planned.toInt) (h_7 : v_planned.toInt ≤ 12) (h_8 : v_limit.length = 1) (h_9 : v_shapeRows.length = 6) (h_10 : v_shapeColumns.length = 6) (h_11 : v_row.length = 192) (h_12 : v_column.length = 192) (h_13 : v_below.length = 192) (h_14 : v_face.length = 192) (h_15 : v_worn.length = 384) (h_16 : v_lastBend.length = 384) (h_17 : v_tape.length = 120) (h_18 : v_text.length = 120) (h_19 : v_names.length = 6) (h_20 : v_bends.length = 64) (h_21 : v_high.length = 32) (h_22 : v_to.length = 32) (h_23 : v_pileSize.length = 64) (h_24 : v_planLine.length = 12) (h_25 : v_planWay.length = 12) (h_26 : fr u_row v_row A B9) (h_27 : fr u_col v_column A B9) (h_28 : fr u_sR v_shapeRows a9 b9) (h_29 : fr u_sC v_shapeColumns a9 b9) (h_30 : A ≤ 32 * (1 : Int32).toInt) (h_31 : 32 * (1 : Int32).toInt + 32 ≤ B9) (h_32 : a9 ≤ (1 : Int32).toInt) (h_33 : (1 : Int32).toInt < b9) : wp (fX9_top N x1 x2 v_rowsOf v_columnsOf v_textMany v_base v_at v_ends v_fault v_opened v_bentMany v_bentWrong v_moreWorn v_planned v_allWrong v_allWorn v_z v_limit v_shapeRows v_shapeColumns v_row v_column v_below v_face v_worn v_lastBend v_tape v_text v_names v_bends v_high v_to v_pileSize v_planLine v_planWay) (cu25 (fun (r : Int32) (wv_base : Int32) (wv_at : Int32) (wv_ends : Int32) (wv_fault : Int32) (wv_opened : Int32) (wv_bentMany : Int32) (wv_bentWrong : Int32) (wv_moreWorn : Int32) (wv_allWrong : Int32) (wv_allWorn : Int32) (wv_z : Int32) (wv_shapeRows : List Int32) (wv_shapeColumns : List Int32) (wv_row : List Int32) (wv_column : List Int32) (wv_below : List Int32) (wv_face : List Int32) (wv_worn : List Int32) (wv_lastBend : List Int32) (wv_names : List Int32) (wv_bends : List Int32) (wv_high : List Int32) (wv_to : List Int32) (wv_pileSize : List Int32) => wv_shapeRows.length = 6 ∧ wv_shapeColumns.length = 6 ∧ wv_row.length = 192 ∧ wv_column.length = 192 ∧ wv_below.length = 192 ∧ wv_face.length = 192 ∧ wv_worn.length = 384 ∧ wv_lastBend.length = 384 ∧ wv_names.length = 6 ∧ wv_bends.length = 64 ∧ wv_high.length = 32 ∧ wv_to.length = 32 ∧ wv_pileSize.length = 64 ∧ fr u_row wv_row A B9 ∧ fr u_col wv_column A B9 ∧ fr u_sR wv_shapeRows a9 b9 ∧ fr u_sC wv_shapeColumns a9 b9)) := by
  have m3 := (i_fl (a := v_rowsOf) (b := v_columnsOf) (by omega) (by omega) (by omega) (by omega)).2
  have n1z : (1 : Int32).toInt = 1 := by decide
  refine wp_of (uf_X9_top _ _ _ _ _ _ _ _ _ _ _ _ _ _ _ _ _ _ _ _ _ _ _ _ _ _ _ _ _ _ _ _ _ _ _ _) ?_
  refine wp_bd25 (sf_X9_isBehind (u_row := u_row) (u_col := u_col) (u_sR := u_sR) (u_sC := u_sC) (A := A) (B9 := B9) (a9 := a9) (b9 := b9) hN h_0 h_1 h_2 h_3 h_4 h_5 h_6 h_7 h_8 h_9 h_10 h_11 h_12 h_13 h_14 h_15 h_16 h_17 h_18 h_19 h_20 h_21 h_22 h_23 h_24 h_25 h_26 h_27 h_28 h_29 h_30 h_31 h_32 h_33) (fun r_1 w_2 w_3 w_4 w_5 w_6 w_7 w_8 w_9 w_10 w_11 w_12 w_13 w_14 w_15 w_16 w_17 w_18 w_19 w_20 w_21 w_22 w_23 w_24 w_25 ⟨q_1, q_2, q_3, q_4, q_5, q_6, q_7, q_8, q_9, q_10, q_11, q_12, q_13, q_14, q_15, q_16, q_17⟩ => ?_)
  refine wp_if (fun c_18 => ?_) (fun c_18 => ?_)
  ·
    exact wp_so25 ⟨q_1, q_2, q_3, q_4, q_5, q_6, q_7, q_8, q_9, q_10, q_11, q_12, q_13, q_14, q_15, q_16, q_17⟩
  ·
    have n_19 : (1 : Int32).toInt = 1 := by decide
    refine wp_bd1 (sf_X9_isPile hN q_1 q_2 (by omega) (by omega)) (fun r_28 _ => ?_)
    refine wp_if (fun c_20 => ?_) (fun c_20 => ?_)
    ·
      exact wp_so25 ⟨q_1, q_2, q_3, q_4, q_5, q_6, q_7, q_8, q_9, q_10, q_11, q_12, q_13, q_14, q_15, q_16, q_17⟩
    ·
      have n_21 : (10 : Int32).toInt = 10 := by decide
      refine wp_ck (i_nz (by omega)) ?_
      refine wp_ck (i_nz (by omega)) ?_
      refine wp_bd1 (sf_X9_topOf hN h_0 h_1 h_2 h_3 q_3 q_4 q_5 (by omega) (by omega)) (fun r_33 _ => ?_)
      exact wp_so25 ⟨q_1, q_2, q_3, q_4, q_5, q_6, q_7, q_8, q_9, q_10, q_11, q_12, q_13, q_14, q_15, q_16, q_17⟩

theorem uf_X9_beside (N : Nat) (x1 : Int32) (x2 : Int32) (v_rowsOf : Int32) (v_columnsOf : Int32) (v_textMany : Int32) (v_base : Int32) (v_at : Int32) (v_ends : Int32) (v_fault : Int32) (v_opened : Int32) (v_bentMany : Int32) (v_bentWrong : Int32) (v_moreWorn : Int32) (v_planned : Int32) (v_allWrong : Int32) (v_allWorn : Int32) (v_z : Int32) (v_limit : List Int32) (v_shapeRows : List Int32) (v_shapeColumns : List Int32) (v_row : List Int32) (v_column : List Int32) (v_below : List Int32) (v_face : List Int32) (v_worn : List Int32) (v_lastBend : List Int32) (v_tape : List Int32) (v_text : List Int32) (v_names : List Int32) (v_bends : List Int32) (v_high : List Int32) (v_to : List Int32) (v_pileSize : List Int32) (v_planLine : List Int32) (v_planWay : List Int32) : fX9_beside N x1 x2 v_rowsOf v_columnsOf v_textMany v_base v_at v_ends v_fault v_opened v_bentMany v_bentWrong v_moreWorn v_planned v_allWrong v_allWorn v_z v_limit v_shapeRows v_shapeColumns v_row v_column v_below v_face v_worn v_lastBend v_tape v_text v_names v_bends v_high v_to v_pileSize v_planLine v_planWay = if x2 < 0 then
    (some ((-1 : Int32), v_base, v_at, v_ends, v_fault, v_opened, v_bentMany, v_bentWrong, v_moreWorn, v_allWrong, v_allWorn, v_z, v_shapeRows, v_shapeColumns, v_row, v_column, v_below, v_face, v_worn, v_lastBend, v_names, v_bends, v_high, v_to, v_pileSize))
    else (mm_ck (mm_nz (100 : Int32)) (mm_bd1 (fX9_isField N (x2 / (100 : Int32)) v_rowsOf v_columnsOf) (fun (r_3 : Bool) =>
    if r_3 = false then
    (some ((-1 : Int32), v_base, v_at, v_ends, v_fault, v_opened, v_bentMany, v_bentWrong, v_moreWorn, v_allWrong, v_allWorn, v_z, v_shapeRows, v_shapeColumns, v_row, v_column, v_below, v_face, v_worn, v_lastBend, v_names, v_bends, v_high, v_to, v_pileSize))
    else (mm_ck (mm_nz (100 : Int32)) (mm_bd1 (fX9_isField N (mm_rem x2 (100 : Int32)) v_rowsOf v_columnsOf) (fun (r_7 : Bool) =>
    if r_7 = false then
    (some ((-1 : Int32), v_base, v_at, v_ends, v_fault, v_opened, v_bentMany, v_bentWrong, v_moreWorn, v_allWrong, v_allWorn, v_z, v_shapeRows, v_shapeColumns, v_row, v_column, v_below, v_face, v_worn, v_lastBend, v_names, v_bends, v_high, v_to, v_pileSize))
    else (mm_ck (mm_nz (100 : Int32)) (mm_ck (mm_nz (100 : Int32)) (if (x2 / (100 : Int32)) = (mm_rem x2 (100 : Int32)) then
    (some ((-1 : Int32), v_base, v_at, v_ends, v_fault, v_opened, v_bentMany, v_bentWrong, v_moreWorn, v_allWrong, v_allWorn, v_z, v_shapeRows, v_shapeColumns, v_row, v_column, v_below, v_face, v_worn, v_lastBend, v_names, v_bends, v_high, v_to, v_pileSize))
    else (mm_bd25 (fX9_isBehind N x1 v_rowsOf v_columnsOf v_textMany v_base v_at v_ends v_fault v_opened v_bentMany v_bentWrong v_moreWorn v_planned v_allWrong v_allWorn v_z v_limit v_shapeRows v_shapeColumns v_row v_column v_below v_face v_worn v_lastBend v_tape v_text v_names v_bends v_high v_to v_pileSize v_planLine v_planWay) (fun (r_13 : Bool) (w_14 : Int32) (w_15 : Int32) (w_16 : Int32) (w_17 : Int32) (w_18 : Int32) (w_19 : Int32) (w_20 : Int32) (w_21 : Int32) (w_22 : Int32) (w_23 : Int32) (w_24 : Int32) (w_25 : List Int32) (w_26 : List Int32) (w_27 : List Int32) (w_28 : List Int32) (w_29 : List Int32) (w_30 : List Int32) (w_31 : List Int32) (w_32 : List Int32) (w_33 : List Int32) (w_34 : List Int32) (w_35 : List Int32) (w_36 : List Int32) (w_37 : List Int32) =>
    if r_13 = false then
    (some ((-1 : Int32), w_14, w_15, w_16, w_17, w_18, w_19, w_20, w_21, w_22, w_23, w_24, w_25, w_26, w_27, w_28, w_29, w_30, w_31, w_32, w_33, w_34, w_35, w_36, w_37))
    else (mm_ck (mm_nz (100 : Int32)) (mm_ck (mm_inb ((32 : Int32) + (x2 / (100 : Int32))) w_27.length) (mm_ck (mm_nz (100 : Int32)) (mm_ck (mm_inb ((32 : Int32) + (mm_rem x2 (100 : Int32))) w_27.length) (mm_nm (((mm_ig w_27 ((32 : Int32) + (x2 / (100 : Int32)))) - (mm_ig w_27 ((32 : Int32) + (mm_rem x2 (100 : Int32)))))) (fun (y_44 : Int32) =>
    mm_ck (mm_nz (100 : Int32)) (mm_ck (mm_inb ((32 : Int32) + (x2 / (100 : Int32))) w_28.length) (mm_ck (mm_nz (100 : Int32)) (mm_ck (mm_inb ((32 : Int32) + (mm_rem x2 (100 : Int32))) w_28.length) (mm_nm (((mm_ig w_28 ((32 : Int32) + (x2 / (100 : Int32)))) - (mm_ig w_28 ((32 : Int32) + (mm_rem x2 (100 : Int32)))))) (fun (y_49 : Int32) =>
    if ((y_44 * y_44) + (y_49 * y_49)) = (1 : Int32) then
    (mm_ck (mm_nz (100 : Int32)) (mm_bd1 (fX9_isOnTop N (1 : Int32) (x2 / (100 : Int32)) v_rowsOf v_columnsOf w_27 w_28 w_29) (fun (r_52 : Bool) =>
    if r_52 = false then
    (some ((0 : Int32), w_14, w_15, w_16, w_17, w_18, w_19, w_20, w_21, w_22, w_23, w_24, w_25, w_26, w_27, w_28, w_29, w_30, w_31, w_32, w_33, w_34, w_35, w_36, w_37))
    else (mm_ck (mm_nz (100 : Int32)) (mm_bd1 (fX9_isOnTop N (1 : Int32) (mm_rem x2 (100 : Int32)) v_rowsOf v_columnsOf w_27 w_28 w_29) (fun (r_56 : Bool) =>
    if r_56 = false then
    (some ((0 : Int32), w_14, w_15, w_16, w_17, w_18, w_19, w_20, w_21, w_22, w_23, w_24, w_25, w_26, w_27, w_28, w_29, w_30, w_31, w_32, w_33, w_34, w_35, w_36, w_37))
    else (some ((1 : Int32), w_14, w_15, w_16, w_17, w_18, w_19, w_20, w_21, w_22, w_23, w_24, w_25, w_26, w_27, w_28, w_29, w_30, w_31, w_32, w_33, w_34, w_35, w_36, w_37))))))))
    else (some ((0 : Int32), w_14, w_15, w_16, w_17, w_18, w_19, w_20, w_21, w_22, w_23, w_24, w_25, w_26, w_27, w_28, w_29, w_30, w_31, w_32, w_33, w_34, w_35, w_36, w_37)))))))))))))))))))))))) := rfl

set_option maxHeartbeats 4000000 in
set_option maxRecDepth 20000 in
theorem sf_X9_beside {N : Nat} (hN : 700 ≤ N) {u_row : List Int32} {u_col : List Int32} {u_sR : List Int32} {u_sC : List Int32} {A : Int} {B9 : Int} {a9 : Int} {b9 : Int} {x1 : Int32} {x2 : Int32} {v_rowsOf : Int32} {v_columnsOf : Int32} {v_textMany : Int32} {v_base : Int32} {v_at : Int32} {v_ends : Int32} {v_fault : Int32} {v_opened : Int32} {v_bentMany : Int32} {v_bentWrong : Int32} {v_moreWorn : Int32} {v_planned : Int32} {v_allWrong : Int32} {v_allWorn : Int32} {v_z : Int32} {v_limit : List Int32} {v_shapeRows : List Int32} {v_shapeColumns : List Int32} {v_row : List Int32} {v_column : List Int32} {v_below : List Int32} {v_face : List Int32} {v_worn : List Int32} {v_lastBend : List Int32} {v_tape : List Int32} {v_text : List Int32} {v_names : List Int32} {v_bends : List Int32} {v_high : List Int32} {v_to : List Int32} {v_pileSize : List Int32} {v_planLine : List Int32} {v_planWay : List Int32} (h_0 : 1 ≤ v_rowsOf.toInt) (h_1 : v_rowsOf.toInt ≤ 4) (h_2 : 1 ≤ v_columnsOf.toInt) (h_3 : v_columnsOf.toInt ≤ 8) (h_4 : -1 ≤ v_textMany.toInt) (h_5 : v_textMany.toInt ≤ 120) (h_6 : 0 ≤ v_planned.toInt) (h_7 : v_planned.toInt ≤ 12) (h_8 : v_limit.length = 1) (h_9 : v_shapeRows.length = 6) (h_10 : v_shapeColumns.length = 6) (h_11 : v_row.length = 192) (h_12 : v_column.length = 192) (h_13 : v_below.length = 192) (h_14 : v_face.length = 192) (h_15 : v_worn.length = 384) (h_16 : v_lastBend.length = 384) (h_17 : v_tape.length = 120) (h_18 : v_text.length = 120) (h_19 : v_names.length = 6) (h_20 : v_bends.length = 64) (h_21 : v_high.length = 32) (h_22 : v_to.length = 32) (h_23 : v_pileSize.length = 64) (h_24 : v_planLine.length = 12) (h_25 : v_planWay.length = 12) (h_26 : fr u_row v_row A B9) (h_27 : fr u_col v_column A B9) (h_28 : fr u_sR v_shapeRows a9 b9) (h_29 : fr u_sC v_shapeColumns a9 b9) (h_30 : A ≤ 32 * (1 : Int32).toInt) (h_31 : 32 * (1 : Int32).toInt + 32 ≤ B9) (h_32 : a9 ≤ (1 : Int32).toInt) (h_33 : (1 : Int32).toInt < b9) : wp (fX9_beside N x1 x2 v_rowsOf v_columnsOf v_textMany v_base v_at v_ends v_fault v_opened v_bentMany v_bentWrong v_moreWorn v_planned v_allWrong v_allWorn v_z v_limit v_shapeRows v_shapeColumns v_row v_column v_below v_face v_worn v_lastBend v_tape v_text v_names v_bends v_high v_to v_pileSize v_planLine v_planWay) (cu25 (fun (r : Int32) (wv_base : Int32) (wv_at : Int32) (wv_ends : Int32) (wv_fault : Int32) (wv_opened : Int32) (wv_bentMany : Int32) (wv_bentWrong : Int32) (wv_moreWorn : Int32) (wv_allWrong : Int32) (wv_allWorn : Int32) (wv_z : Int32) (wv_shapeRows : List Int32) (wv_shapeColumns : List Int32) (wv_row : List Int32) (wv_column : List Int32) (wv_below : List Int32) (wv_face : List Int32) (wv_worn : List Int32) (wv_lastBend : List Int32) (wv_names : List Int32) (wv_bends : List Int32) (wv_high : List Int32) (wv_to : List Int32) (wv_pileSize : List Int32) => wv_shapeRows.length = 6 ∧ wv_shapeColumns.length = 6 ∧ wv_row.length = 192 ∧ wv_column.length = 192 ∧ wv_below.length = 192 ∧ wv_face.length = 192 ∧ wv_worn.length = 384 ∧ wv_lastBend.length = 384 ∧ wv_names.length = 6 ∧ wv_bends.length = 64 ∧ wv_high.length = 32 ∧ wv_to.length = 32 ∧ wv_pileSize.length = 64 ∧ fr u_row wv_row A B9 ∧ fr u_col wv_column A B9 ∧ fr u_sR wv_shapeRows a9 b9 ∧ fr u_sC wv_shapeColumns a9 b9)) := by
  have m3 := (i_fl (a := v_rowsOf) (b := v_columnsOf) (by omega) (by omega) (by omega) (by omega)).2
  have n1z : (1 : Int32).toInt = 1 := by decide
  have hx1 : x1.toInt < 2147483648 := Int32.toInt_lt x1
  have hx2 : x2.toInt < 2147483648 := Int32.toInt_lt x2
  refine wp_of (uf_X9_beside _ _ _ _ _ _ _ _ _ _ _ _ _ _ _ _ _ _ _ _ _ _ _ _ _ _ _ _ _ _ _ _ _ _ _ _) ?_
  have n_2 : (0 : Int32).toInt = 0 := by decide
  refine wp_if (fun c_1 => ?_) (fun c_1 => ?_)
  ·
    have dc_1 := i_lt c_1
    exact wp_so25 ⟨h_9, h_10, h_11, h_12, h_13, h_14, h_15, h_16, h_19, h_20, h_21, h_22, h_23, h_26, h_27, h_28, h_29⟩
  ·
    have dc_1 := i_nlt c_1
    have n_3 : (100 : Int32).toInt = 100 := by decide
    refine wp_ck (i_nz (by omega)) ?_
    generalize hz_z : (x2 / (100 : Int32)) = z
    have e_4 := i_divL (c := 100) (by decide) (by decide) hz_z
    refine wp_bd1 (sf_X9_isField hN h_0 h_1 h_2 h_3) (fun r_3 q_5 => ?_)
    rcases q_5 with ⟨rfl, q_5⟩ | ⟨rfl, q_5⟩
    ·
      refine wp_ifn (by decide) ?_
      refine wp_ck (i_nz (by omega)) ?_
      generalize hz_z__6 : (mm_rem x2 (100 : Int32)) = z__6
      have e_7 := i_remL (c := 100) (by decide) (by decide) hz_z__6
      refine wp_bd1 (sf_X9_isField hN h_0 h_1 h_2 h_3) (fun r_7 q_8 => ?_)
      rcases q_8 with ⟨rfl, q_8⟩ | ⟨rfl, q_8⟩
      ·
        refine wp_ifn (by decide) ?_
        refine wp_ck (i_nz (by omega)) ?_
        refine wp_ck (i_nz (by omega)) ?_
        refine wp_if (fun c_9 => ?_) (fun c_9 => ?_)
        ·
          have dc_9 := i_eq c_9
          exact wp_so25 ⟨h_9, h_10, h_11, h_12, h_13, h_14, h_15, h_16, h_19, h_20, h_21, h_22, h_23, h_26, h_27, h_28, h_29⟩
        ·
          have dc_9 := i_ne c_9
          refine wp_bd25 (sf_X9_isBehind (u_row := u_row) (u_col := u_col) (u_sR := u_sR) (u_sC := u_sC) (A := A) (B9 := B9) (a9 := a9) (b9 := b9) hN h_0 h_1 h_2 h_3 h_4 h_5 h_6 h_7 h_8 h_9 h_10 h_11 h_12 h_13 h_14 h_15 h_16 h_17 h_18 h_19 h_20 h_21 h_22 h_23 h_24 h_25 h_26 h_27 h_28 h_29 h_30 h_31 h_32 h_33) (fun r_13 w_14 w_15 w_16 w_17 w_18 w_19 w_20 w_21 w_22 w_23 w_24 w_25 w_26 w_27 w_28 w_29 w_30 w_31 w_32 w_33 w_34 w_35 w_36 w_37 ⟨q_10, q_11, q_12, q_13, q_14, q_15, q_16, q_17, q_18, q_19, q_20, q_21, q_22, q_23, q_24, q_25, q_26⟩ => ?_)
          refine wp_if (fun c_27 => ?_) (fun c_27 => ?_)
          ·
            exact wp_so25 ⟨q_10, q_11, q_12, q_13, q_14, q_15, q_16, q_17, q_18, q_19, q_20, q_21, q_22, q_23, q_24, q_25, q_26⟩
          ·
            refine wp_ck (i_nz (by omega)) ?_
            have n_28 : (32 : Int32).toInt = 32 := by decide
            generalize hz_z__29 : ((32 : Int32) + z) = z__29
            first | have e_30 := i_addE hz_z__29 (by omega) (by omega) | obtain ⟨k_30, e_30, e1_30, e2_30⟩ := i_addY hz_z__29
            refine wp_ck (i_inb (by omega) (by omega)) ?_
            refine wp_ck (i_nz (by omega)) ?_
            generalize hz_z__31 : ((32 : Int32) + z__6) = z__31
            first | have e_32 := i_addE hz_z__31 (by omega) (by omega) | obtain ⟨k_32, e_32, e1_32, e2_32⟩ := i_addY hz_z__31
            refine wp_ck (i_inb (by omega) (by omega)) ?_
            refine wp_nm (fun y_44 _ => ?_)
            refine wp_ck (i_nz (by omega)) ?_
            refine wp_ck (i_inb (by omega) (by omega)) ?_
            refine wp_ck (i_nz (by omega)) ?_
            refine wp_ck (i_inb (by omega) (by omega)) ?_
            refine wp_nm (fun y_49 _ => ?_)
            generalize hz_z__34 : ((y_44 * y_44) + (y_49 * y_49)) = z__34
            first | have e_35 := i_addE hz_z__34 (by omega) (by omega) | obtain ⟨k_35, e_35, e1_35, e2_35⟩ := i_addY hz_z__34
            have n_36 : (1 : Int32).toInt = 1 := by decide
            refine wp_if (fun c_33 => ?_) (fun c_33 => ?_)
            ·
              have dc_33 := i_eq c_33
              refine wp_ck (i_nz (by omega)) ?_
              refine wp_bd1 (sf_X9_isOnTop hN h_0 h_1 h_2 h_3 q_12 q_13 q_14 (by omega) (by omega) (by omega) (by omega)) (fun r_52 _ => ?_)
              refine wp_if (fun c_37 => ?_) (fun c_37 => ?_)
              ·
                exact wp_so25 ⟨q_10, q_11, q_12, q_13, q_14, q_15, q_16, q_17, q_18, q_19, q_20, q_21, q_22, q_23, q_24, q_25, q_26⟩
              ·
                refine wp_ck (i_nz (by omega)) ?_
                refine wp_bd1 (sf_X9_isOnTop hN h_0 h_1 h_2 h_3 q_12 q_13 q_14 (by omega) (by omega) (by omega) (by omega)) (fun r_56 _ => ?_)
                refine wp_if (fun c_38 => ?_) (fun c_38 => ?_)
                ·
                  exact wp_so25 ⟨q_10, q_11, q_12, q_13, q_14, q_15, q_16, q_17, q_18, q_19, q_20, q_21, q_22, q_23, q_24, q_25, q_26⟩
                ·
                  exact wp_so25 ⟨q_10, q_11, q_12, q_13, q_14, q_15, q_16, q_17, q_18, q_19, q_20, q_21, q_22, q_23, q_24, q_25, q_26⟩
            ·
              have dc_33 := i_ne c_33
              exact wp_so25 ⟨q_10, q_11, q_12, q_13, q_14, q_15, q_16, q_17, q_18, q_19, q_20, q_21, q_22, q_23, q_24, q_25, q_26⟩
      ·
        refine wp_ifp (by decide) ?_
        exact wp_so25 ⟨h_9, h_10, h_11, h_12, h_13, h_14, h_15, h_16, h_19, h_20, h_21, h_22, h_23, h_26, h_27, h_28, h_29⟩
    ·
      refine wp_ifp (by decide) ?_
      exact wp_so25 ⟨h_9, h_10, h_11, h_12, h_13, h_14, h_15, h_16, h_19, h_20, h_21, h_22, h_23, h_26, h_27, h_28, h_29⟩

theorem uf_X9_wind_53 (N : Nat) (n : Nat) (x2 : Int32) (x3 : Int32) (x4 : Int32) (x5 : Int32) (v_rowsOf : Int32) (v_columnsOf : Int32) (v_textMany : Int32) (v_base : Int32) (v_at : Int32) (v_ends : Int32) (v_fault : Int32) (v_opened : Int32) (v_bentMany : Int32) (v_bentWrong : Int32) (v_moreWorn : Int32) (v_planned : Int32) (v_allWrong : Int32) (v_allWorn : Int32) (v_z : Int32) (v_limit : List Int32) (v_shapeRows : List Int32) (v_shapeColumns : List Int32) (v_row : List Int32) (v_column : List Int32) (v_below : List Int32) (v_face : List Int32) (v_worn : List Int32) (v_lastBend : List Int32) (v_tape : List Int32) (v_text : List Int32) (v_names : List Int32) (v_bends : List Int32) (v_high : List Int32) (v_to : List Int32) (v_pileSize : List Int32) (v_planLine : List Int32) (v_planWay : List Int32) : fX9_wind_53 N (n + 1) x2 x3 x4 x5 v_rowsOf v_columnsOf v_textMany v_base v_at v_ends v_fault v_opened v_bentMany v_bentWrong v_moreWorn v_planned v_allWrong v_allWorn v_z v_limit v_shapeRows v_shapeColumns v_row v_column v_below v_face v_worn v_lastBend v_tape v_text v_names v_bends v_high v_to v_pileSize v_planLine v_planWay = 
    mm_ck (mm_nz (1000 : Int32)) (if (x2 / (1000 : Int32)) ≤ x5 then
    (mm_ck (mm_nz (1000 : Int32)) (mm_ck (mm_nz (x2 / (1000 : Int32))) (some ((x4 / (x2 / (1000 : Int32))), v_base, v_at, v_ends, v_fault, v_opened, v_bentMany, v_bentWrong, v_moreWorn, v_allWrong, v_allWorn, v_z, v_shapeRows, v_shapeColumns, v_row, v_column, v_below, v_face, v_worn, v_lastBend, v_names, v_bends, v_high, v_to, v_pileSize))))
    else (mm_ck (mm_nz (1000 : Int32)) (mm_bd25 (fX9_goesPlan N (12 : Int32) (mm_rem x2 (1000 : Int32)) v_rowsOf v_columnsOf v_textMany v_base v_at v_ends v_fault v_opened v_bentMany v_bentWrong v_moreWorn v_planned v_allWrong v_allWorn v_z v_limit v_shapeRows v_shapeColumns v_row v_column v_below v_face v_worn v_lastBend v_tape v_text v_names v_bends v_high v_to v_pileSize v_planLine v_planWay) (fun (r_16 : Int32) (w_17 : Int32) (w_18 : Int32) (w_19 : Int32) (w_20 : Int32) (w_21 : Int32) (w_22 : Int32) (w_23 : Int32) (w_24 : Int32) (w_25 : Int32) (w_26 : Int32) (w_27 : Int32) (w_28 : List Int32) (w_29 : List Int32) (w_30 : List Int32) (w_31 : List Int32) (w_32 : List Int32) (w_33 : List Int32) (w_34 : List Int32) (w_35 : List Int32) (w_36 : List Int32) (w_37 : List Int32) (w_38 : List Int32) (w_39 : List Int32) (w_40 : List Int32) =>
    if x3 = 0 then
    (fX9_wind_93 N (fX9_wind_53 N n) x2 x3 x5 w_25 x4 v_rowsOf v_columnsOf v_textMany w_17 w_18 w_19 w_20 w_21 w_22 w_23 w_24 v_planned w_25 w_26 w_27 v_limit w_28 w_29 w_30 w_31 w_32 w_33 w_34 w_35 v_tape v_text w_36 w_37 w_38 w_39 w_40 v_planLine v_planWay)
    else (fX9_wind_93 N (fX9_wind_53 N n) x2 x3 x5 w_26 x4 v_rowsOf v_columnsOf v_textMany w_17 w_18 w_19 w_20 w_21 w_22 w_23 w_24 v_planned w_25 w_26 w_27 v_limit w_28 w_29 w_30 w_31 w_32 w_33 w_34 w_35 v_tape v_text w_36 w_37 w_38 w_39 w_40 v_planLine v_planWay))))) := rfl

theorem uf_X9_wind_93 (N : Nat) (k_53 : Int32 → Int32 → Int32 → Int32 → Int32 → Int32 → Int32 → Int32 → Int32 → Int32 → Int32 → Int32 → Int32 → Int32 → Int32 → Int32 → Int32 → Int32 → Int32 → List Int32 → List Int32 → List Int32 → List Int32 → List Int32 → List Int32 → List Int32 → List Int32 → List Int32 → List Int32 → List Int32 → List Int32 → List Int32 → List Int32 → List Int32 → List Int32 → List Int32 → List Int32 → Option (Int32 × Int32 × Int32 × Int32 × Int32 × Int32 × Int32 × Int32 × Int32 × Int32 × Int32 × Int32 × List Int32 × List Int32 × List Int32 × List Int32 × List Int32 × List Int32 × List Int32 × List Int32 × List Int32 × List Int32 × List Int32 × List Int32 × List Int32)) (x2 : Int32) (x3 : Int32) (x5 : Int32) (s0 : Int32) (s1 : Int32) (v_rowsOf : Int32) (v_columnsOf : Int32) (v_textMany : Int32) (v_base : Int32) (v_at : Int32) (v_ends : Int32) (v_fault : Int32) (v_opened : Int32) (v_bentMany : Int32) (v_bentWrong : Int32) (v_moreWorn : Int32) (v_planned : Int32) (v_allWrong : Int32) (v_allWorn : Int32) (v_z : Int32) (v_limit : List Int32) (v_shapeRows : List Int32) (v_shapeColumns : List Int32) (v_row : List Int32) (v_column : List Int32) (v_below : List Int32) (v_face : List Int32) (v_worn : List Int32) (v_lastBend : List Int32) (v_tape : List Int32) (v_text : List Int32) (v_names : List Int32) (v_bends : List Int32) (v_high : List Int32) (v_to : List Int32) (v_pileSize : List Int32) (v_planLine : List Int32) (v_planWay : List Int32) : fX9_wind_93 N k_53 x2 x3 x5 s0 s1 v_rowsOf v_columnsOf v_textMany v_base v_at v_ends v_fault v_opened v_bentMany v_bentWrong v_moreWorn v_planned v_allWrong v_allWorn v_z v_limit v_shapeRows v_shapeColumns v_row v_column v_below v_face v_worn v_lastBend v_tape v_text v_names v_bends v_high v_to v_pileSize v_planLine v_planWay = mm_nm ((s1 + s0)) (fun (y_43 : Int32) =>
    mm_nm (x5 + (1 : Int32)) (fun (y_44 : Int32) =>
    k_53 x2 x3 y_43 y_44 v_rowsOf v_columnsOf v_textMany v_base v_at v_ends v_fault v_opened v_bentMany v_bentWrong v_moreWorn v_planned v_allWrong v_allWorn v_z v_limit v_shapeRows v_shapeColumns v_row v_column v_below v_face v_worn v_lastBend v_tape v_text v_names v_bends v_high v_to v_pileSize v_planLine v_planWay)) := rfl

set_option maxHeartbeats 4000000 in
set_option maxRecDepth 20000 in
theorem sf_X9_wind_53 {N : Nat} (hN : 700 ≤ N) {u_row : List Int32} {u_col : List Int32} {u_sR : List Int32} {u_sC : List Int32} {A : Int} {B9 : Int} {a9 : Int} {b9 : Int} : ∀ (n : Nat) (x2 : Int32) (x3 : Int32) (x4 : Int32) (x5 : Int32) (v_rowsOf : Int32) (v_columnsOf : Int32) (v_textMany : Int32) (v_base : Int32) (v_at : Int32) (v_ends : Int32) (v_fault : Int32) (v_opened : Int32) (v_bentMany : Int32) (v_bentWrong : Int32) (v_moreWorn : Int32) (v_planned : Int32) (v_allWrong : Int32) (v_allWorn : Int32) (v_z : Int32) (v_limit : List Int32) (v_shapeRows : List Int32) (v_shapeColumns : List Int32) (v_row : List Int32) (v_column : List Int32) (v_below : List Int32) (v_face : List Int32) (v_worn : List Int32) (v_lastBend : List Int32) (v_tape : List Int32) (v_text : List Int32) (v_names : List Int32) (v_bends : List Int32) (v_high : List Int32) (v_to : List Int32) (v_pileSize : List Int32) (v_planLine : List Int32) (v_planWay : List Int32), 1 ≤ v_rowsOf.toInt → v_rowsOf.toInt ≤ 4 → 1 ≤ v_columnsOf.toInt → v_columnsOf.toInt ≤ 8 → -1 ≤ v_textMany.toInt → v_textMany.toInt ≤ 120 → 0 ≤ v_planned.toInt → v_planned.toInt ≤ 12 → v_limit.length = 1 → v_shapeRows.length = 6 → v_shapeColumns.length = 6 → v_row.length = 192 → v_column.length = 192 → v_below.length = 192 → v_face.length = 192 → v_worn.length = 384 → v_lastBend.length = 384 → v_tape.length = 120 → v_text.length = 120 → v_names.length = 6 → v_bends.length = 64 → v_high.length = 32 → v_to.length = 32 → v_pileSize.length = 64 → v_planLine.length = 12 → v_planWay.length = 12 → fr u_row v_row A B9 → fr u_col v_column A B9 → fr u_sR v_shapeRows a9 b9 → fr u_sC v_shapeColumns a9 b9 → A ≤ 32 * (1 : Int32).toInt → 32 * (1 : Int32).toInt + 32 ≤ B9 → a9 ≤ (1 : Int32).toInt → (1 : Int32).toInt < b9 → 1000 ≤ x2.toInt → x2.toInt ≤ 20999 → 0 ≤ x5.toInt → x5.toInt ≤ 21 → (22 - x5.toInt).toNat < n → wp (fX9_wind_53 N n x2 x3 x4 x5 v_rowsOf v_columnsOf v_textMany v_base v_at v_ends v_fault v_opened v_bentMany v_bentWrong v_moreWorn v_planned v_allWrong v_allWorn v_z v_limit v_shapeRows v_shapeColumns v_row v_column v_below v_face v_worn v_lastBend v_tape v_text v_names v_bends v_high v_to v_pileSize v_planLine v_planWay) (cu25 (fun (r : Int32) (wv_base : Int32) (wv_at : Int32) (wv_ends : Int32) (wv_fault : Int32) (wv_opened : Int32) (wv_bentMany : Int32) (wv_bentWrong : Int32) (wv_moreWorn : Int32) (wv_allWrong : Int32) (wv_allWorn : Int32) (wv_z : Int32) (wv_shapeRows : List Int32) (wv_shapeColumns : List Int32) (wv_row : List Int32) (wv_column : List Int32) (wv_below : List Int32) (wv_face : List Int32) (wv_worn : List Int32) (wv_lastBend : List Int32) (wv_names : List Int32) (wv_bends : List Int32) (wv_high : List Int32) (wv_to : List Int32) (wv_pileSize : List Int32) => wv_shapeRows.length = 6 ∧ wv_shapeColumns.length = 6 ∧ wv_row.length = 192 ∧ wv_column.length = 192 ∧ wv_below.length = 192 ∧ wv_face.length = 192 ∧ wv_worn.length = 384 ∧ wv_lastBend.length = 384 ∧ wv_names.length = 6 ∧ wv_bends.length = 64 ∧ wv_high.length = 32 ∧ wv_to.length = 32 ∧ wv_pileSize.length = 64 ∧ fr u_row wv_row A B9 ∧ fr u_col wv_column A B9 ∧ fr u_sR wv_shapeRows a9 b9 ∧ fr u_sC wv_shapeColumns a9 b9)) := by
  intro n
  induction n with
  | zero =>
    intro x2 x3 x4 x5 v_rowsOf v_columnsOf v_textMany v_base v_at v_ends v_fault v_opened v_bentMany v_bentWrong v_moreWorn v_planned v_allWrong v_allWorn v_z v_limit v_shapeRows v_shapeColumns v_row v_column v_below v_face v_worn v_lastBend v_tape v_text v_names v_bends v_high v_to v_pileSize v_planLine v_planWay h_0 h_1 h_2 h_3 h_4 h_5 h_6 h_7 h_8 h_9 h_10 h_11 h_12 h_13 h_14 h_15 h_16 h_17 h_18 h_19 h_20 h_21 h_22 h_23 h_24 h_25 h_26 h_27 h_28 h_29 h_30 h_31 h_32 h_33 h_34 h_35 h_36 h_37 hm
    exact absurd hm (by omega)
  | succ n ih =>
    intro x2 x3 x4 x5 v_rowsOf v_columnsOf v_textMany v_base v_at v_ends v_fault v_opened v_bentMany v_bentWrong v_moreWorn v_planned v_allWrong v_allWorn v_z v_limit v_shapeRows v_shapeColumns v_row v_column v_below v_face v_worn v_lastBend v_tape v_text v_names v_bends v_high v_to v_pileSize v_planLine v_planWay h_0 h_1 h_2 h_3 h_4 h_5 h_6 h_7 h_8 h_9 h_10 h_11 h_12 h_13 h_14 h_15 h_16 h_17 h_18 h_19 h_20 h_21 h_22 h_23 h_24 h_25 h_26 h_27 h_28 h_29 h_30 h_31 h_32 h_33 h_34 h_35 h_36 h_37 hm
    refine wp_of (uf_X9_wind_53 _ _ _ _ _ _ _ _ _ _ _ _ _ _ _ _ _ _ _ _ _ _ _ _ _ _ _ _ _ _ _ _ _ _ _ _ _ _ _) ?_
    have n_1 : (1000 : Int32).toInt = 1000 := by decide
    refine wp_ck (i_nz (by omega)) ?_
    generalize hz_z : (x2 / (1000 : Int32)) = z
    have e_3 := i_divE (c := 1000) (by decide) (by decide) hz_z (by omega)
    refine wp_if (fun c_2 => ?_) (fun c_2 => ?_)
    ·
      have dc_2 := i_le c_2
      refine wp_ck (i_nz (by omega)) ?_
      refine wp_ck (i_nz (by omega)) ?_
      exact wp_so25 ⟨h_9, h_10, h_11, h_12, h_13, h_14, h_15, h_16, h_19, h_20, h_21, h_22, h_23, h_26, h_27, h_28, h_29⟩
    ·
      have dc_2 := i_nle c_2
      refine wp_ck (i_nz (by omega)) ?_
      refine wp_bd25 (sf_X9_goesPlan (u_row := u_row) (u_col := u_col) (u_sR := u_sR) (u_sC := u_sC) (A := A) (B9 := B9) (a9 := a9) (b9 := b9) hN h_0 h_1 h_2 h_3 h_4 h_5 h_6 h_7 h_8 h_9 h_10 h_11 h_12 h_13 h_14 h_15 h_16 h_17 h_18 h_19 h_20 h_21 h_22 h_23 h_24 h_25 h_26 h_27 h_28 h_29 h_30 h_31 h_32 h_33) (fun r_16 w_17 w_18 w_19 w_20 w_21 w_22 w_23 w_24 w_25 w_26 w_27 w_28 w_29 w_30 w_31 w_32 w_33 w_34 w_35 w_36 w_37 w_38 w_39 w_40 ⟨q_4, q_5, q_6, q_7, q_8, q_9, q_10, q_11, q_12, q_13, q_14, q_15, q_16, q_17, q_18, q_19, q_20, q_21⟩ => ?_)
      have n_23 : (0 : Int32).toInt = 0 := by decide
      refine wp_if (fun c_22 => ?_) (fun c_22 => ?_)
      ·
        have dc_22 := i_eq c_22
        refine wp_of (uf_X9_wind_93 _ _ _ _ _ _ _ _ _ _ _ _ _ _ _ _ _ _ _ _ _ _ _ _ _ _ _ _ _ _ _ _ _ _ _ _ _ _ _ _) ?_
        refine wp_nm (fun y_43 _ => ?_)
        have n_24 : (1 : Int32).toInt = 1 := by decide
        refine wp_nm (fun y_44 h_y_44 => ?_)
        have e_25 := i_addE h_y_44.symm (by omega) (by omega)
        exact ih _ _ _ _ _ _ _ _ _ _ _ _ _ _ _ _ _ _ _ _ _ _ _ _ _ _ _ _ _ _ _ _ _ _ _ _ _ h_0 h_1 h_2 h_3 h_4 h_5 h_6 h_7 h_8 q_4 q_5 q_6 q_7 q_8 q_9 q_10 q_11 h_17 h_18 q_12 q_13 q_14 q_15 q_16 h_24 h_25 q_17 q_18 q_19 q_20 h_30 h_31 h_32 h_33 h_34 h_35 (by omega) (by omega) (by omega)
      ·
        have dc_22 := i_ne c_22
        refine wp_of (uf_X9_wind_93 _ _ _ _ _ _ _ _ _ _ _ _ _ _ _ _ _ _ _ _ _ _ _ _ _ _ _ _ _ _ _ _ _ _ _ _ _ _ _ _) ?_
        refine wp_nm (fun y_43__26 _ => ?_)
        have n_28 : (1 : Int32).toInt = 1 := by decide
        refine wp_nm (fun y_44__27 h_y_44__27 => ?_)
        have e_29 := i_addE h_y_44__27.symm (by omega) (by omega)
        exact ih _ _ _ _ _ _ _ _ _ _ _ _ _ _ _ _ _ _ _ _ _ _ _ _ _ _ _ _ _ _ _ _ _ _ _ _ _ h_0 h_1 h_2 h_3 h_4 h_5 h_6 h_7 h_8 q_4 q_5 q_6 q_7 q_8 q_9 q_10 q_11 h_17 h_18 q_12 q_13 q_14 q_15 q_16 h_24 h_25 q_17 q_18 q_19 q_20 h_30 h_31 h_32 h_33 h_34 h_35 (by omega) (by omega) (by omega)

theorem uf_X9_wind (N : Nat) (x1 : Int32) (x2 : Int32) (x3 : Int32) (v_rowsOf : Int32) (v_columnsOf : Int32) (v_textMany : Int32) (v_base : Int32) (v_at : Int32) (v_ends : Int32) (v_fault : Int32) (v_opened : Int32) (v_bentMany : Int32) (v_bentWrong : Int32) (v_moreWorn : Int32) (v_planned : Int32) (v_allWrong : Int32) (v_allWorn : Int32) (v_z : Int32) (v_limit : List Int32) (v_shapeRows : List Int32) (v_shapeColumns : List Int32) (v_row : List Int32) (v_column : List Int32) (v_below : List Int32) (v_face : List Int32) (v_worn : List Int32) (v_lastBend : List Int32) (v_tape : List Int32) (v_text : List Int32) (v_names : List Int32) (v_bends : List Int32) (v_high : List Int32) (v_to : List Int32) (v_pileSize : List Int32) (v_planLine : List Int32) (v_planWay : List Int32) : fX9_wind N x1 x2 x3 v_rowsOf v_columnsOf v_textMany v_base v_at v_ends v_fault v_opened v_bentMany v_bentWrong v_moreWorn v_planned v_allWrong v_allWorn v_z v_limit v_shapeRows v_shapeColumns v_row v_column v_below v_face v_worn v_lastBend v_tape v_text v_names v_bends v_high v_to v_pileSize v_planLine v_planWay = if x2 < 0 then
    (some ((-1 : Int32), v_base, v_at, v_ends, v_fault, v_opened, v_bentMany, v_bentWrong, v_moreWorn, v_allWrong, v_allWorn, v_z, v_shapeRows, v_shapeColumns, v_row, v_column, v_below, v_face, v_worn, v_lastBend, v_names, v_bends, v_high, v_to, v_pileSize))
    else (mm_ck (mm_nz (1000 : Int32)) (mm_bd1 (fX9_within N ((x2 / (1000 : Int32)).toInt64) (1 : Int64) (20 : Int64)) (fun (r_3 : Bool) =>
    if r_3 = false then
    (some ((-1 : Int32), v_base, v_at, v_ends, v_fault, v_opened, v_bentMany, v_bentWrong, v_moreWorn, v_allWrong, v_allWorn, v_z, v_shapeRows, v_shapeColumns, v_row, v_column, v_below, v_face, v_worn, v_lastBend, v_names, v_bends, v_high, v_to, v_pileSize))
    else (mm_ck (mm_nz (1000 : Int32)) (if (100 : Int32) < (mm_rem x2 (1000 : Int32)) then
    (some ((-1 : Int32), v_base, v_at, v_ends, v_fault, v_opened, v_bentMany, v_bentWrong, v_moreWorn, v_allWrong, v_allWorn, v_z, v_shapeRows, v_shapeColumns, v_row, v_column, v_below, v_face, v_worn, v_lastBend, v_names, v_bends, v_high, v_to, v_pileSize))
    else (mm_bd1 (fX9_within N ((x3).toInt64) (0 : Int64) (1 : Int64)) (fun (r_8 : Bool) =>
    if r_8 = false then
    (some ((-1 : Int32), v_base, v_at, v_ends, v_fault, v_opened, v_bentMany, v_bentWrong, v_moreWorn, v_allWrong, v_allWorn, v_z, v_shapeRows, v_shapeColumns, v_row, v_column, v_below, v_face, v_worn, v_lastBend, v_names, v_bends, v_high, v_to, v_pileSize))
    else (fX9_wind_53 N N x2 x3 (0 : Int32) (0 : Int32) v_rowsOf v_columnsOf v_textMany v_base v_at v_ends v_fault v_opened v_bentMany v_bentWrong v_moreWorn v_planned v_allWrong v_allWorn x1 v_limit v_shapeRows v_shapeColumns v_row v_column v_below v_face v_worn v_lastBend v_tape v_text v_names v_bends v_high v_to v_pileSize v_planLine v_planWay)))))))) := rfl

set_option maxHeartbeats 4000000 in
set_option maxRecDepth 20000 in
theorem sf_X9_wind {N : Nat} (hN : 700 ≤ N) {u_row : List Int32} {u_col : List Int32} {u_sR : List Int32} {u_sC : List Int32} {A : Int} {B9 : Int} {a9 : Int} {b9 : Int} {x1 : Int32} {x2 : Int32} {x3 : Int32} {v_rowsOf : Int32} {v_columnsOf : Int32} {v_textMany : Int32} {v_base : Int32} {v_at : Int32} {v_ends : Int32} {v_fault : Int32} {v_opened : Int32} {v_bentMany : Int32} {v_bentWrong : Int32} {v_moreWorn : Int32} {v_planned : Int32} {v_allWrong : Int32} {v_allWorn : Int32} {v_z : Int32} {v_limit : List Int32} {v_shapeRows : List Int32} {v_shapeColumns : List Int32} {v_row : List Int32} {v_column : List Int32} {v_below : List Int32} {v_face : List Int32} {v_worn : List Int32} {v_lastBend : List Int32} {v_tape : List Int32} {v_text : List Int32} {v_names : List Int32} {v_bends : List Int32} {v_high : List Int32} {v_to : List Int32} {v_pileSize : List Int32} {v_planLine : List Int32} {v_planWay : List Int32} (h_0 : 1 ≤ v_rowsOf.toInt) (h_1 : v_rowsOf.toInt ≤ 4) (h_2 : 1 ≤ v_columnsOf.toInt) (h_3 : v_columnsOf.toInt ≤ 8) (h_4 : -1 ≤ v_textMany.toInt) (h_5 : v_textMany.toInt ≤ 120) (h_6 : 0 ≤ v_planned.toInt) (h_7 : v_planned.toInt ≤ 12) (h_8 : v_limit.length = 1) (h_9 : v_shapeRows.length = 6) (h_10 : v_shapeColumns.length = 6) (h_11 : v_row.length = 192) (h_12 : v_column.length = 192) (h_13 : v_below.length = 192) (h_14 : v_face.length = 192) (h_15 : v_worn.length = 384) (h_16 : v_lastBend.length = 384) (h_17 : v_tape.length = 120) (h_18 : v_text.length = 120) (h_19 : v_names.length = 6) (h_20 : v_bends.length = 64) (h_21 : v_high.length = 32) (h_22 : v_to.length = 32) (h_23 : v_pileSize.length = 64) (h_24 : v_planLine.length = 12) (h_25 : v_planWay.length = 12) (h_26 : fr u_row v_row A B9) (h_27 : fr u_col v_column A B9) (h_28 : fr u_sR v_shapeRows a9 b9) (h_29 : fr u_sC v_shapeColumns a9 b9) (h_30 : A ≤ 32 * (1 : Int32).toInt) (h_31 : 32 * (1 : Int32).toInt + 32 ≤ B9) (h_32 : a9 ≤ (1 : Int32).toInt) (h_33 : (1 : Int32).toInt < b9) : wp (fX9_wind N x1 x2 x3 v_rowsOf v_columnsOf v_textMany v_base v_at v_ends v_fault v_opened v_bentMany v_bentWrong v_moreWorn v_planned v_allWrong v_allWorn v_z v_limit v_shapeRows v_shapeColumns v_row v_column v_below v_face v_worn v_lastBend v_tape v_text v_names v_bends v_high v_to v_pileSize v_planLine v_planWay) (cu25 (fun (r : Int32) (wv_base : Int32) (wv_at : Int32) (wv_ends : Int32) (wv_fault : Int32) (wv_opened : Int32) (wv_bentMany : Int32) (wv_bentWrong : Int32) (wv_moreWorn : Int32) (wv_allWrong : Int32) (wv_allWorn : Int32) (wv_z : Int32) (wv_shapeRows : List Int32) (wv_shapeColumns : List Int32) (wv_row : List Int32) (wv_column : List Int32) (wv_below : List Int32) (wv_face : List Int32) (wv_worn : List Int32) (wv_lastBend : List Int32) (wv_names : List Int32) (wv_bends : List Int32) (wv_high : List Int32) (wv_to : List Int32) (wv_pileSize : List Int32) => wv_shapeRows.length = 6 ∧ wv_shapeColumns.length = 6 ∧ wv_row.length = 192 ∧ wv_column.length = 192 ∧ wv_below.length = 192 ∧ wv_face.length = 192 ∧ wv_worn.length = 384 ∧ wv_lastBend.length = 384 ∧ wv_names.length = 6 ∧ wv_bends.length = 64 ∧ wv_high.length = 32 ∧ wv_to.length = 32 ∧ wv_pileSize.length = 64 ∧ fr u_row wv_row A B9 ∧ fr u_col wv_column A B9 ∧ fr u_sR wv_shapeRows a9 b9 ∧ fr u_sC wv_shapeColumns a9 b9)) := by
  refine wp_of (uf_X9_wind _ _ _ _ _ _ _ _ _ _ _ _ _ _ _ _ _ _ _ _ _ _ _ _ _ _ _ _ _ _ _ _ _ _ _ _ _) ?_
  have n_2 : (0 : Int32).toInt = 0 := by decide
  refine wp_if (fun c_1 => ?_) (fun c_1 => ?_)
  ·
    have dc_1 := i_lt c_1
    exact wp_so25 ⟨h_9, h_10, h_11, h_12, h_13, h_14, h_15, h_16, h_19, h_20, h_21, h_22, h_23, h_26, h_27, h_28, h_29⟩
  ·
    have dc_1 := i_nlt c_1
    have n_3 : (1000 : Int32).toInt = 1000 := by decide
    refine wp_ck (i_nz (by omega)) ?_
    generalize hz_z : (x2 / (1000 : Int32)) = z
    have e_4 := i_divL (c := 1000) (by decide) (by decide) hz_z
    have n_5 := i_64 z
    have n_6 : (1 : Int64).toInt = 1 := by decide
    have n_7 : (20 : Int64).toInt = 20 := by decide
    refine wp_bd1 (sf_X9_within hN ) (fun r_3 q_8 => ?_)
    rcases q_8 with ⟨rfl, q_8⟩ | ⟨rfl, q_8⟩
    ·
      refine wp_ifn (by decide) ?_
      refine wp_ck (i_nz (by omega)) ?_
      have n_10 : (100 : Int32).toInt = 100 := by decide
      generalize hz_z__11 : (mm_rem x2 (1000 : Int32)) = z__11
      have e_12 := i_remL (c := 1000) (by decide) (by decide) hz_z__11
      refine wp_if (fun c_9 => ?_) (fun c_9 => ?_)
      ·
        have dc_9 := i_lt c_9
        exact wp_so25 ⟨h_9, h_10, h_11, h_12, h_13, h_14, h_15, h_16, h_19, h_20, h_21, h_22, h_23, h_26, h_27, h_28, h_29⟩
      ·
        have dc_9 := i_nlt c_9
        have n_13 := i_64 x3
        have n_14 : (0 : Int64).toInt = 0 := by decide
        refine wp_bd1 (sf_X9_within hN ) (fun r_8 q_15 => ?_)
        rcases q_15 with ⟨rfl, q_15⟩ | ⟨rfl, q_15⟩
        ·
          refine wp_ifn (by decide) ?_
          exact sf_X9_wind_53 (u_row := u_row) (u_col := u_col) (u_sR := u_sR) (u_sC := u_sC) (A := A) (B9 := B9) (a9 := a9) (b9 := b9) hN _ _ _ _ _ _ _ _ _ _ _ _ _ _ _ _ _ _ _ _ _ _ _ _ _ _ _ _ _ _ _ _ _ _ _ _ _ _ h_0 h_1 h_2 h_3 h_4 h_5 h_6 h_7 h_8 h_9 h_10 h_11 h_12 h_13 h_14 h_15 h_16 h_17 h_18 h_19 h_20 h_21 h_22 h_23 h_24 h_25 h_26 h_27 h_28 h_29 h_30 h_31 h_32 h_33 (by omega) (by omega) (by omega) (by omega) (by omega)
        ·
          refine wp_ifp (by decide) ?_
          exact wp_so25 ⟨h_9, h_10, h_11, h_12, h_13, h_14, h_15, h_16, h_19, h_20, h_21, h_22, h_23, h_26, h_27, h_28, h_29⟩
    ·
      refine wp_ifp (by decide) ?_
      exact wp_so25 ⟨h_9, h_10, h_11, h_12, h_13, h_14, h_15, h_16, h_19, h_20, h_21, h_22, h_23, h_26, h_27, h_28, h_29⟩
end
section
/-! safe -/
theorem uf_X9_isOrder_10 (N : Nat) (n : Nat) (x1 : Int32) (x3 : Int32) (x4 : Int32) (x5 : Int32) (v_order1 : List Int32) (v_placeIn : List Int32) : fX9_isOrder_10 N (n + 1) x1 x3 x4 x5 v_order1 v_placeIn = 
    if x5 < 0 then
    (if x4 = 0 then
    (some (true, v_order1, v_placeIn))
    else (some (false, v_order1, v_placeIn)))
    else (mm_ck (mm_nz (10 : Int32)) (mm_nm (((mm_rem x4 (10 : Int32)) - (1 : Int32))) (fun (y_5 : Int32) =>
    if x4 ≤ 0 then
    (some (false, v_order1, v_placeIn))
    else (mm_bd1 (fX9_within N ((y_5).toInt64) (0 : Int64) ((x1 - (1 : Int32)).toInt64)) (fun (r_7 : Bool) =>
    if r_7 = false then
    (some (false, v_order1, v_placeIn))
    else (if ((x3 >>> (y_5 &&& 31)) &&& (1 : Int32)) = (1 : Int32) then
    (some (false, v_order1, v_placeIn))
    else (mm_nm ((x3 ||| ((1 : Int32) <<< (y_5 &&& 31)))) (fun (y_11 : Int32) =>
    mm_ck (mm_inb x5 v_order1.length) (mm_nm (mm_is v_order1 x5 y_5) (fun (l_13 : List Int32) =>
    mm_ck (mm_inb y_5 v_placeIn.length) (mm_nm (mm_is v_placeIn y_5 x5) (fun (l_15 : List Int32) =>
    mm_ck (mm_nz (10 : Int32)) (mm_nm ((x4 / (10 : Int32))) (fun (y_17 : Int32) =>
    mm_nm (x5 + (-1 : Int32)) (fun (y_18 : Int32) =>
    fX9_isOrder_10 N n x1 y_11 y_17 y_18 l_13 l_15))))))))))))))) := rfl

set_option maxHeartbeats 4000000 in
set_option maxRecDepth 20000 in
theorem sf_X9_isOrder_10 {N : Nat} (hN : 700 ≤ N)  : ∀ (n : Nat) (x1 : Int32) (x3 : Int32) (x4 : Int32) (x5 : Int32) (v_order1 : List Int32) (v_placeIn : List Int32), v_order1.length = 7 → v_placeIn.length = 7 → 2 ≤ x1.toInt → x1.toInt ≤ 7 → -1 ≤ x5.toInt → x5.toInt < 7 → (x5.toInt + 1).toNat < n → wp (fX9_isOrder_10 N n x1 x3 x4 x5 v_order1 v_placeIn) (cu3 (fun (r : Bool) (wv_order1 : List Int32) (wv_placeIn : List Int32) => wv_order1.length = 7 ∧ wv_placeIn.length = 7)) := by
  intro n
  induction n with
  | zero =>
    intro x1 x3 x4 x5 v_order1 v_placeIn h_0 h_1 h_2 h_3 h_4 h_5 hm
    exact absurd hm (by omega)
  | succ n ih =>
    intro x1 x3 x4 x5 v_order1 v_placeIn h_0 h_1 h_2 h_3 h_4 h_5 hm
    refine wp_of (uf_X9_isOrder_10 _ _ _ _ _ _ _ _) ?_
    have n_2 : (0 : Int32).toInt = 0 := by decide
    refine wp_if (fun c_1 => ?_) (fun c_1 => ?_)
    ·
      have dc_1 := i_lt c_1
      refine wp_if (fun c_3 => ?_) (fun c_3 => ?_)
      ·
        have dc_3 := i_eq c_3
        exact wp_so3 ⟨h_0, h_1⟩
      ·
        have dc_3 := i_ne c_3
        exact wp_so3 ⟨h_0, h_1⟩
    ·
      have dc_1 := i_nlt c_1
      have n_4 : (10 : Int32).toInt = 10 := by decide
      refine wp_ck (i_nz (by omega)) ?_
      refine wp_nm (fun y_5 _ => ?_)
      refine wp_if (fun c_5 => ?_) (fun c_5 => ?_)
      ·
        have dc_5 := i_le c_5
        exact wp_so3 ⟨h_0, h_1⟩
      ·
        have dc_5 := i_nle c_5
        have n_6 := i_64 y_5
        have n_7 : (0 : Int64).toInt = 0 := by decide
        have n_8 : (1 : Int32).toInt = 1 := by decide
        generalize hz_z : (x1 - (1 : Int32)) = z
        have e_9 := i_subE hz_z (by omega) (by omega)
        have n_10 := i_64 z
        refine wp_bd1 (sf_X9_within hN ) (fun r_7 q_11 => ?_)
        rcases q_11 with ⟨rfl, q_11⟩ | ⟨rfl, q_11⟩
        ·
          refine wp_ifn (by decide) ?_
          refine wp_if (fun c_12 => ?_) (fun c_12 => ?_)
          ·
            have dc_12 := i_eq c_12
            exact wp_so3 ⟨h_0, h_1⟩
          ·
            have dc_12 := i_ne c_12
            refine wp_nm (fun y_11 _ => ?_)
            refine wp_ck (i_inb (by omega) (by omega)) ?_
            refine wp_nm (fun l_13 h_l_13 => ?_)
            have nl_l_13 : l_13.length = 7 := by rw [h_l_13, is_len]; assumption
            refine wp_ck (i_inb (by omega) (by omega)) ?_
            refine wp_nm (fun l_15 h_l_15 => ?_)
            have nl_l_15 : l_15.length = 7 := by rw [h_l_15, is_len]; assumption
            refine wp_ck (i_nz (by omega)) ?_
            refine wp_nm (fun y_17 h_y_17 => ?_)
            have e_13 := i_divL (c := 10) (by decide) (by decide) h_y_17.symm
            have n_14 : (-1 : Int32).toInt = -1 := by decide
            refine wp_nm (fun y_18 h_y_18 => ?_)
            have e_15 := i_addE h_y_18.symm (by omega) (by omega)
            exact ih _ _ _ _ _ _ nl_l_13 nl_l_15 h_2 h_3 (by omega) (by omega) (by omega)
        ·
          refine wp_ifp (by decide) ?_
          exact wp_so3 ⟨h_0, h_1⟩

theorem uf_X9_isOrder (N : Nat) (x1 : Int32) (x2 : Int32) (v_order1 : List Int32) (v_placeIn : List Int32) : fX9_isOrder N x1 x2 v_order1 v_placeIn = mm_nm ((x1 - (1 : Int32))) (fun (y_1 : Int32) =>
    fX9_isOrder_10 N N x1 (0 : Int32) x2 y_1 v_order1 v_placeIn) := rfl

set_option maxHeartbeats 4000000 in
set_option maxRecDepth 20000 in
theorem sf_X9_isOrder {N : Nat} (hN : 700 ≤ N) {x1 : Int32} {x2 : Int32} {v_order1 : List Int32} {v_placeIn : List Int32} (h_0 : v_order1.length = 7) (h_1 : v_placeIn.length = 7) (h_2 : 2 ≤ x1.toInt) (h_3 : x1.toInt ≤ 7) : wp (fX9_isOrder N x1 x2 v_order1 v_placeIn) (cu3 (fun (r : Bool) (wv_order1 : List Int32) (wv_placeIn : List Int32) => wv_order1.length = 7 ∧ wv_placeIn.length = 7)) := by
  refine wp_of (uf_X9_isOrder _ _ _ _ _) ?_
  have n_1 : (1 : Int32).toInt = 1 := by decide
  refine wp_nm (fun y_1 h_y_1 => ?_)
  have e_2 := i_subE h_y_1.symm (by omega) (by omega)
  exact sf_X9_isOrder_10 hN _ _ _ _ _ _ _ h_0 h_1 h_2 h_3 (by omega) (by omega) (by omega)

theorem uf_X9_isInside (N : Nat) (x1 : Int32) (x2 : Int32) (v_placeIn : List Int32) : fX9_isInside N x1 x2 v_placeIn = mm_ck (mm_inb x2 v_placeIn.length) (mm_nm ((mm_ig v_placeIn x2)) (fun (y_2 : Int32) =>
    mm_ck (mm_inb (x2 + (1 : Int32)) v_placeIn.length) (mm_nm ((mm_ig v_placeIn (x2 + (1 : Int32)))) (fun (y_4 : Int32) =>
    if y_4 ≤ y_2 then
    (if x1 ≤ y_4 then
    (some (false))
    else (if y_2 ≤ x1 then
    (some (false))
    else (some (true))))
    else (if x1 ≤ y_2 then
    (some (false))
    else (if y_4 ≤ x1 then
    (some (false))
    else (some (true)))))))) := rfl

set_option maxHeartbeats 4000000 in
set_option maxRecDepth 20000 in
theorem sf_X9_isInside {N : Nat} (hN : 700 ≤ N) {x1 : Int32} {x2 : Int32} {v_placeIn : List Int32} (h_0 : v_placeIn.length = 7) (h_1 : 0 ≤ x2.toInt) (h_2 : x2.toInt < 6) : wp (fX9_isInside N x1 x2 v_placeIn) (fun (r : Bool) => True) := by
  refine wp_of (uf_X9_isInside _ _ _ _) ?_
  refine wp_ck (i_inb (by omega) (by omega)) ?_
  refine wp_nm (fun y_2 h_y_2 => ?_)
  have t_y_2 : y_2.toInt = ((mm_ig v_placeIn x2)).toInt := by rw [h_y_2]
  have n_1 : (1 : Int32).toInt = 1 := by decide
  generalize hz_z : (x2 + (1 : Int32)) = z
  have e_2 := i_addE hz_z (by omega) (by omega)
  refine wp_ck (i_inb (by omega) (by omega)) ?_
  refine wp_nm (fun y_4 h_y_4 => ?_)
  have t_y_4 : y_4.toInt = ((mm_ig v_placeIn z)).toInt := by rw [h_y_4]
  refine wp_if (fun c_3 => ?_) (fun c_3 => ?_)
  ·
    have dc_3 := i_le c_3
    refine wp_if (fun c_4 => ?_) (fun c_4 => ?_)
    ·
      have dc_4 := i_le c_4
      exact wp_so1 trivial
    ·
      have dc_4 := i_nle c_4
      refine wp_if (fun c_5 => ?_) (fun c_5 => ?_)
      ·
        have dc_5 := i_le c_5
        exact wp_so1 trivial
      ·
        have dc_5 := i_nle c_5
        exact wp_so1 trivial
  ·
    have dc_3 := i_nle c_3
    refine wp_if (fun c_6 => ?_) (fun c_6 => ?_)
    ·
      have dc_6 := i_le c_6
      exact wp_so1 trivial
    ·
      have dc_6 := i_nle c_6
      refine wp_if (fun c_7 => ?_) (fun c_7 => ?_)
      ·
        have dc_7 := i_le c_7
        exact wp_so1 trivial
      ·
        have dc_7 := i_nle c_7
        exact wp_so1 trivial

theorem uf_X9_areCrossed (N : Nat) (x1 : Int32) (x2 : Int32) (v_placeIn : List Int32) : fX9_areCrossed N x1 x2 v_placeIn = mm_ck (mm_inb x2 v_placeIn.length) (mm_bd1 (fX9_isInside N (mm_ig v_placeIn x2) x1 v_placeIn) (fun (r_2 : Bool) =>
    mm_ck (mm_inb (x2 + (1 : Int32)) v_placeIn.length) (mm_bd1 (fX9_isInside N (mm_ig v_placeIn (x2 + (1 : Int32))) x1 v_placeIn) (fun (r_5 : Bool) =>
    if (mm_b r_2) = (mm_b r_5) then
    (some (false))
    else (mm_ck (mm_inb x1 v_placeIn.length) (mm_bd1 (fX9_isInside N (mm_ig v_placeIn x1) x2 v_placeIn) (fun (r_9 : Bool) =>
    mm_ck (mm_inb (x1 + (1 : Int32)) v_placeIn.length) (mm_bd1 (fX9_isInside N (mm_ig v_placeIn (x1 + (1 : Int32))) x2 v_placeIn) (fun (r_12 : Bool) =>
    if (mm_b r_9) = (mm_b r_12) then
    (some (false))
    else (some (true))))))))))) := rfl

set_option maxHeartbeats 4000000 in
set_option maxRecDepth 20000 in
theorem sf_X9_areCrossed {N : Nat} (hN : 700 ≤ N) {x1 : Int32} {x2 : Int32} {v_placeIn : List Int32} (h_0 : v_placeIn.length = 7) (h_1 : 0 ≤ x1.toInt) (h_2 : x1.toInt < 6) (h_3 : 0 ≤ x2.toInt) (h_4 : x2.toInt < 6) : wp (fX9_areCrossed N x1 x2 v_placeIn) (fun (r : Bool) => True) := by
  refine wp_of (uf_X9_areCrossed _ _ _ _) ?_
  refine wp_ck (i_inb (by omega) (by omega)) ?_
  refine wp_bd1 (sf_X9_isInside hN h_0 h_1 h_2) (fun r_2 _ => ?_)
  have n_1 : (1 : Int32).toInt = 1 := by decide
  generalize hz_z : (x2 + (1 : Int32)) = z
  have e_2 := i_addE hz_z (by omega) (by omega)
  refine wp_ck (i_inb (by omega) (by omega)) ?_
  refine wp_bd1 (sf_X9_isInside hN h_0 h_1 h_2) (fun r_5 _ => ?_)
  generalize hz_z__4 : (mm_b r_2) = z__4
  obtain ⟨e_5, e1_5⟩ := i_bY hz_z__4
  generalize hz_z__6 : (mm_b r_5) = z__6
  obtain ⟨e_7, e1_7⟩ := i_bY hz_z__6
  refine wp_if (fun c_3 => ?_) (fun c_3 => ?_)
  ·
    have dc_3 := i_eq c_3
    exact wp_so1 trivial
  ·
    have dc_3 := i_ne c_3
    refine wp_ck (i_inb (by omega) (by omega)) ?_
    refine wp_bd1 (sf_X9_isInside hN h_0 h_3 h_4) (fun r_9 _ => ?_)
    generalize hz_z__8 : (x1 + (1 : Int32)) = z__8
    have e_9 := i_addE hz_z__8 (by omega) (by omega)
    refine wp_ck (i_inb (by omega) (by omega)) ?_
    refine wp_bd1 (sf_X9_isInside hN h_0 h_3 h_4) (fun r_12 _ => ?_)
    generalize hz_z__11 : (mm_b r_9) = z__11
    obtain ⟨e_12, e1_12⟩ := i_bY hz_z__11
    generalize hz_z__13 : (mm_b r_12) = z__13
    obtain ⟨e_14, e1_14⟩ := i_bY hz_z__13
    refine wp_if (fun c_10 => ?_) (fun c_10 => ?_)
    ·
      have dc_10 := i_eq c_10
      exact wp_so1 trivial
    ·
      have dc_10 := i_ne c_10
      exact wp_so1 trivial

theorem uf_X9_firstCross_13 (N : Nat) (k_2 : Int32 → Int32 → List Int32 → Option (Int32)) (n : Nat) (x1 : Int32) (x2 : Int32) (x3 : Int32) (v_placeIn : List Int32) : fX9_firstCross_13 N k_2 (n + 1) x1 x2 x3 v_placeIn = 
    if x1 ≤ (x3 + (1 : Int32)) then
    (mm_nm (x2 + (1 : Int32)) (fun (y_4 : Int32) =>
    k_2 x1 y_4 v_placeIn))
    else (mm_bd1 (fX9_areCrossed N x2 x3 v_placeIn) (fun (r_5 : Bool) =>
    if r_5 = false then
    (mm_nm (x3 + (2 : Int32)) (fun (y_8 : Int32) =>
    fX9_firstCross_13 N k_2 n x1 x2 y_8 v_placeIn))
    else (some ((((10 : Int32) * x2) + x3))))) := rfl

set_option maxHeartbeats 4000000 in
set_option maxRecDepth 20000 in
theorem sf_X9_firstCross_13 {N : Nat} (hN : 700 ≤ N) {B : Nat} {k_2 : Int32 → Int32 → List Int32 → Option (Int32)} (hk_2 : ∀ (x1 : Int32) (x2 : Int32) (v_placeIn : List Int32), v_placeIn.length = 7 → 2 ≤ x1.toInt → x1.toInt ≤ 7 → 0 ≤ x2.toInt → x2.toInt ≤ 7 → (8 - x2.toInt).toNat < B → wp (k_2 x1 x2 v_placeIn) (fun (r : Int32) => True)) : ∀ (n : Nat) (x1 : Int32) (x2 : Int32) (x3 : Int32) (v_placeIn : List Int32), v_placeIn.length = 7 → 2 ≤ x1.toInt → x1.toInt ≤ 7 → 0 ≤ x2.toInt → x2.toInt < 7 → x2.toInt + 1 < x1.toInt → 0 ≤ x3.toInt → x3.toInt ≤ 9 → (8 - x2.toInt).toNat < B + 1 → (10 - x3.toInt).toNat < n → wp (fX9_firstCross_13 N k_2 n x1 x2 x3 v_placeIn) (fun (r : Int32) => True) := by
  intro n
  induction n with
  | zero =>
    intro x1 x2 x3 v_placeIn h_0 h_1 h_2 h_3 h_4 h_5 h_6 h_7 h_8 hm
    exact absurd hm (by omega)
  | succ n ih =>
    intro x1 x2 x3 v_placeIn h_0 h_1 h_2 h_3 h_4 h_5 h_6 h_7 h_8 hm
    refine wp_of (uf_X9_firstCross_13 _ _ _ _ _ _ _) ?_
    have n_2 : (1 : Int32).toInt = 1 := by decide
    generalize hz_z : (x3 + (1 : Int32)) = z
    have e_3 := i_addE hz_z (by omega) (by omega)
    refine wp_if (fun c_1 => ?_) (fun c_1 => ?_)
    ·
      have dc_1 := i_le c_1
      refine wp_nm (fun y_4 h_y_4 => ?_)
      have e_4 := i_addE h_y_4.symm (by omega) (by omega)
      exact hk_2 _ _ _ h_0 h_1 h_2 (by omega) (by omega) (by omega)
    ·
      have dc_1 := i_nle c_1
      refine wp_bd1 (sf_X9_areCrossed hN h_0 h_3 (by omega) h_6 (by omega)) (fun r_5 _ => ?_)
      refine wp_if (fun c_5 => ?_) (fun c_5 => ?_)
      ·
        have n_6 : (2 : Int32).toInt = 2 := by decide
        refine wp_nm (fun y_8 h_y_8 => ?_)
        have e_7 := i_addE h_y_8.symm (by omega) (by omega)
        exact ih _ _ _ _ h_0 h_1 h_2 h_3 h_4 h_5 (by omega) (by omega) h_8 (by omega)
      ·
        exact wp_so1 trivial

theorem uf_X9_firstCross_2 (N : Nat) (n : Nat) (x1 : Int32) (x2 : Int32) (v_placeIn : List Int32) : fX9_firstCross_2 N (n + 1) x1 x2 v_placeIn = 
    if x1 ≤ (x2 + (1 : Int32)) then
    (some ((-2 : Int32)))
    else (mm_nm ((x2 + (2 : Int32))) (fun (y_2 : Int32) =>
    fX9_firstCross_13 N (fX9_firstCross_2 N n) N x1 x2 y_2 v_placeIn)) := rfl

set_option maxHeartbeats 4000000 in
set_option maxRecDepth 20000 in
theorem sf_X9_firstCross_2 {N : Nat} (hN : 700 ≤ N)  : ∀ (n : Nat) (x1 : Int32) (x2 : Int32) (v_placeIn : List Int32), v_placeIn.length = 7 → 2 ≤ x1.toInt → x1.toInt ≤ 7 → 0 ≤ x2.toInt → x2.toInt ≤ 7 → (8 - x2.toInt).toNat < n → wp (fX9_firstCross_2 N n x1 x2 v_placeIn) (fun (r : Int32) => True) := by
  intro n
  induction n with
  | zero =>
    intro x1 x2 v_placeIn h_0 h_1 h_2 h_3 h_4 hm
    exact absurd hm (by omega)
  | succ n ih =>
    intro x1 x2 v_placeIn h_0 h_1 h_2 h_3 h_4 hm
    refine wp_of (uf_X9_firstCross_2 _ _ _ _ _) ?_
    have n_2 : (1 : Int32).toInt = 1 := by decide
    generalize hz_z : (x2 + (1 : Int32)) = z
    have e_3 := i_addE hz_z (by omega) (by omega)
    refine wp_if (fun c_1 => ?_) (fun c_1 => ?_)
    ·
      have dc_1 := i_le c_1
      exact wp_so1 trivial
    ·
      have dc_1 := i_nle c_1
      have n_4 : (2 : Int32).toInt = 2 := by decide
      refine wp_nm (fun y_2 h_y_2 => ?_)
      have e_5 := i_addE h_y_2.symm (by omega) (by omega)
      exact sf_X9_firstCross_13 hN ih _ _ _ _ _ h_0 h_1 h_2 h_3 (by omega) (by omega) (by omega) (by omega) (by omega) (by omega)

theorem uf_X9_firstCross (N : Nat) (x1 : Int32) (v_placeIn : List Int32) : fX9_firstCross N x1 v_placeIn = fX9_firstCross_2 N N x1 (0 : Int32) v_placeIn := rfl

set_option maxHeartbeats 4000000 in
set_option maxRecDepth 20000 in
theorem sf_X9_firstCross {N : Nat} (hN : 700 ≤ N) {x1 : Int32} {v_placeIn : List Int32} (h_0 : v_placeIn.length = 7) (h_1 : 2 ≤ x1.toInt) (h_2 : x1.toInt ≤ 7) : wp (fX9_firstCross N x1 v_placeIn) (fun (r : Int32) => True) := by
  refine wp_of (uf_X9_firstCross _ _ _) ?_
  have n_1 : (0 : Int32).toInt = 0 := by decide
  exact sf_X9_firstCross_2 hN _ _ _ _ h_0 h_1 h_2 (by omega) (by omega) (by omega)

theorem uf_X9_crosses (N : Nat) (x1 : Int32) (x2 : Int32) (v_order1 : List Int32) (v_placeIn : List Int32) : fX9_crosses N x1 x2 v_order1 v_placeIn = mm_bd1 (fX9_isStrip N x1) (fun (r_1 : Bool) =>
    if r_1 = false then
    (some ((-1 : Int32), v_order1, v_placeIn))
    else (mm_bd3 (fX9_isOrder N x1 x2 v_order1 v_placeIn) (fun (r_4 : Bool) (w_5 : List Int32) (w_6 : List Int32) =>
    if r_4 = false then
    (some ((-1 : Int32), w_5, w_6))
    else (mm_bd1 (fX9_firstCross N x1 w_6) (fun (r_9 : Int32) =>
    some (r_9, w_5, w_6)))))) := rfl

theorem uf_X9_isStrip (N : Nat) (x0 : Int32) : fX9_isStrip N x0 = mm_bd1 (fX9_within N ((x0).toInt64) (2 : Int64) (7 : Int64)) (fun (r_1 : Bool) =>
    some (r_1)) := rfl

set_option maxHeartbeats 4000000 in
set_option maxRecDepth 20000 in
theorem sf_X9_crosses {N : Nat} (hN : 700 ≤ N) {x1 : Int32} {x2 : Int32} {v_order1 : List Int32} {v_placeIn : List Int32} (h_0 : v_order1.length = 7) (h_1 : v_placeIn.length = 7) : wp (fX9_crosses N x1 x2 v_order1 v_placeIn) (cu3 (fun (r : Int32) (wv_order1 : List Int32) (wv_placeIn : List Int32) => wv_order1.length = 7 ∧ wv_placeIn.length = 7)) := by
  refine wp_of (uf_X9_crosses _ _ _ _ _) ?_
  refine wp_in1 ?_
  refine wp_of (uf_X9_isStrip _ _) ?_
  have n_1 := i_64 x1
  have n_2 : (2 : Int64).toInt = 2 := by decide
  have n_3 : (7 : Int64).toInt = 7 := by decide
  refine wp_bd1 (sf_X9_within hN ) (fun r_1 q_4 => ?_)
  rcases q_4 with ⟨rfl, q_4⟩ | ⟨rfl, q_4⟩
  ·
    refine wp_so1 ?_
    show wp _ _
    refine wp_ifn (by decide) ?_
    refine wp_bd3 (sf_X9_isOrder hN h_0 h_1 (by omega) (by omega)) (fun r_4 w_5 w_6 ⟨q_5, q_6⟩ => ?_)
    refine wp_if (fun c_7 => ?_) (fun c_7 => ?_)
    ·
      exact wp_so3 ⟨q_5, q_6⟩
    ·
      refine wp_bd1 (sf_X9_firstCross hN q_6 (by omega) (by omega)) (fun r_9 _ => ?_)
      exact wp_so3 ⟨q_5, q_6⟩
  ·
    refine wp_so1 ?_
    show wp _ _
    refine wp_ifp (by decide) ?_
    exact wp_so3 ⟨h_0, h_1⟩

theorem uf_X9_bendsOf_33 (N : Nat) (k_4 : Int32 → Int32 → Int32 → List Int32 → Option (Int32)) (x1 : Int32) (x2 : Int32) (x3 : Int32) (s0 : Int32) (v_placeIn : List Int32) : fX9_bendsOf_33 N k_4 x1 x2 x3 s0 v_placeIn = mm_ck (mm_nz (2 : Int32)) (if (mm_rem x3 (2 : Int32)) = 0 then
    (fX9_bendsOf_49 N k_4 x1 x3 (1 : Int32) s0 x2 v_placeIn)
    else (fX9_bendsOf_49 N k_4 x1 x3 (0 : Int32) s0 x2 v_placeIn)) := rfl

theorem uf_X9_bendsOf_4 (N : Nat) (n : Nat) (x1 : Int32) (x2 : Int32) (x3 : Int32) (v_placeIn : List Int32) : fX9_bendsOf_4 N (n + 1) x1 x2 x3 v_placeIn = 
    if x1 ≤ (x3 + (1 : Int32)) then
    (some (x2))
    else (mm_ck (mm_inb x3 v_placeIn.length) (mm_ck (mm_inb (x3 + (1 : Int32)) v_placeIn.length) (if (mm_ig v_placeIn (x3 + (1 : Int32))) ≤ (mm_ig v_placeIn x3) then
    (fX9_bendsOf_33 N (fX9_bendsOf_4 N n) x1 x2 x3 (0 : Int32) v_placeIn)
    else (fX9_bendsOf_33 N (fX9_bendsOf_4 N n) x1 x2 x3 (1 : Int32) v_placeIn)))) := rfl

theorem uf_X9_bendsOf_49 (N : Nat) (k_4 : Int32 → Int32 → Int32 → List Int32 → Option (Int32)) (x1 : Int32) (x3 : Int32) (s0 : Int32) (s1 : Int32) (s2 : Int32) (v_placeIn : List Int32) : fX9_bendsOf_49 N k_4 x1 x3 s0 s1 s2 v_placeIn = if s1 = s0 then
    (fX9_bendsOf_59 N k_4 x1 x3 ((1 : Int32) <<< (x3 &&& 31)) s2 v_placeIn)
    else (fX9_bendsOf_59 N k_4 x1 x3 (0 : Int32) s2 v_placeIn) := rfl

theorem uf_X9_bendsOf_59 (N : Nat) (k_4 : Int32 → Int32 → Int32 → List Int32 → Option (Int32)) (x1 : Int32) (x3 : Int32) (s0 : Int32) (s1 : Int32) (v_placeIn : List Int32) : fX9_bendsOf_59 N k_4 x1 x3 s0 s1 v_placeIn = mm_nm ((s1 ||| s0)) (fun (y_8 : Int32) =>
    mm_nm (x3 + (1 : Int32)) (fun (y_9 : Int32) =>
    k_4 x1 y_8 y_9 v_placeIn)) := rfl

set_option maxHeartbeats 4000000 in
set_option maxRecDepth 20000 in
theorem sf_X9_bendsOf_4 {N : Nat} (hN : 700 ≤ N)  : ∀ (n : Nat) (x1 : Int32) (x2 : Int32) (x3 : Int32) (v_placeIn : List Int32), v_placeIn.length = 7 → 2 ≤ x1.toInt → x1.toInt ≤ 7 → 0 ≤ x3.toInt → x3.toInt ≤ 7 → (8 - x3.toInt).toNat < n → wp (fX9_bendsOf_4 N n x1 x2 x3 v_placeIn) (fun (r : Int32) => True) := by
  intro n
  induction n with
  | zero =>
    intro x1 x2 x3 v_placeIn h_0 h_1 h_2 h_3 h_4 hm
    exact absurd hm (by omega)
  | succ n ih =>
    intro x1 x2 x3 v_placeIn h_0 h_1 h_2 h_3 h_4 hm
    refine wp_of (uf_X9_bendsOf_4 _ _ _ _ _ _) ?_
    have n_2 : (1 : Int32).toInt = 1 := by decide
    generalize hz_z : (x3 + (1 : Int32)) = z
    have e_3 := i_addE hz_z (by omega) (by omega)
    refine wp_if (fun c_1 => ?_) (fun c_1 => ?_)
    ·
      have dc_1 := i_le c_1
      exact wp_so1 trivial
    ·
      have dc_1 := i_nle c_1
      refine wp_ck (i_inb (by omega) (by omega)) ?_
      refine wp_ck (i_inb (by omega) (by omega)) ?_
      refine wp_if (fun c_4 => ?_) (fun c_4 => ?_)
      ·
        have dc_4 := i_le c_4
        refine wp_of (uf_X9_bendsOf_33 _ _ _ _ _ _ _) ?_
        have n_5 : (2 : Int32).toInt = 2 := by decide
        refine wp_ck (i_nz (by omega)) ?_
        generalize hz_z__7 : (mm_rem x3 (2 : Int32)) = z__7
        have e_8 := i_remE (c := 2) (by decide) (by decide) hz_z__7 (by omega)
        have n_9 : (0 : Int32).toInt = 0 := by decide
        refine wp_if (fun c_6 => ?_) (fun c_6 => ?_)
        ·
          have dc_6 := i_eq c_6
          refine wp_of (uf_X9_bendsOf_49 _ _ _ _ _ _ _ _) ?_
          refine wp_ifn (by decide) ?_
          refine wp_of (uf_X9_bendsOf_59 _ _ _ _ _ _ _) ?_
          refine wp_nm (fun y_8 _ => ?_)
          refine wp_nm (fun y_9 h_y_9 => ?_)
          have e_10 := i_addE h_y_9.symm (by omega) (by omega)
          exact ih _ _ _ _ h_0 h_1 h_2 (by omega) (by omega) (by omega)
        ·
          have dc_6 := i_ne c_6
          refine wp_of (uf_X9_bendsOf_49 _ _ _ _ _ _ _ _) ?_
          refine wp_ifp (by decide) ?_
          refine wp_of (uf_X9_bendsOf_59 _ _ _ _ _ _ _) ?_
          refine wp_nm (fun y_8__11 _ => ?_)
          refine wp_nm (fun y_9__12 h_y_9__12 => ?_)
          have e_13 := i_addE h_y_9__12.symm (by omega) (by omega)
          exact ih _ _ _ _ h_0 h_1 h_2 (by omega) (by omega) (by omega)
      ·
        have dc_4 := i_nle c_4
        refine wp_of (uf_X9_bendsOf_33 _ _ _ _ _ _ _) ?_
        have n_14 : (2 : Int32).toInt = 2 := by decide
        refine wp_ck (i_nz (by omega)) ?_
        generalize hz_z__16 : (mm_rem x3 (2 : Int32)) = z__16
        have e_17 := i_remE (c := 2) (by decide) (by decide) hz_z__16 (by omega)
        have n_18 : (0 : Int32).toInt = 0 := by decide
        refine wp_if (fun c_15 => ?_) (fun c_15 => ?_)
        ·
          have dc_15 := i_eq c_15
          refine wp_of (uf_X9_bendsOf_49 _ _ _ _ _ _ _ _) ?_
          refine wp_ifp (by decide) ?_
          refine wp_of (uf_X9_bendsOf_59 _ _ _ _ _ _ _) ?_
          refine wp_nm (fun y_8__19 _ => ?_)
          refine wp_nm (fun y_9__20 h_y_9__20 => ?_)
          have e_21 := i_addE h_y_9__20.symm (by omega) (by omega)
          exact ih _ _ _ _ h_0 h_1 h_2 (by omega) (by omega) (by omega)
        ·
          have dc_15 := i_ne c_15
          refine wp_of (uf_X9_bendsOf_49 _ _ _ _ _ _ _ _) ?_
          refine wp_ifn (by decide) ?_
          refine wp_of (uf_X9_bendsOf_59 _ _ _ _ _ _ _) ?_
          refine wp_nm (fun y_8__22 _ => ?_)
          refine wp_nm (fun y_9__23 h_y_9__23 => ?_)
          have e_24 := i_addE h_y_9__23.symm (by omega) (by omega)
          exact ih _ _ _ _ h_0 h_1 h_2 (by omega) (by omega) (by omega)

theorem uf_X9_bendsOf (N : Nat) (x1 : Int32) (v_placeIn : List Int32) : fX9_bendsOf N x1 v_placeIn = fX9_bendsOf_4 N N x1 (0 : Int32) (0 : Int32) v_placeIn := rfl

set_option maxHeartbeats 4000000 in
set_option maxRecDepth 20000 in
theorem sf_X9_bendsOf {N : Nat} (hN : 700 ≤ N) {x1 : Int32} {v_placeIn : List Int32} (h_0 : v_placeIn.length = 7) (h_1 : 2 ≤ x1.toInt) (h_2 : x1.toInt ≤ 7) : wp (fX9_bendsOf N x1 v_placeIn) (fun (r : Int32) => True) := by
  refine wp_of (uf_X9_bendsOf _ _ _) ?_
  have n_1 : (0 : Int32).toInt = 0 := by decide
  exact sf_X9_bendsOf_4 hN _ _ _ _ _ h_0 h_1 h_2 (by omega) (by omega) (by omega)

theorem uf_X9_bends (N : Nat) (x1 : Int32) (x2 : Int32) (v_order1 : List Int32) (v_placeIn : List Int32) : fX9_bends N x1 x2 v_order1 v_placeIn = mm_bd1 (fX9_isStrip N x1) (fun (r_1 : Bool) =>
    if r_1 = false then
    (some ((-1 : Int32), v_order1, v_placeIn))
    else (mm_bd3 (fX9_isOrder N x1 x2 v_order1 v_placeIn) (fun (r_4 : Bool) (w_5 : List Int32) (w_6 : List Int32) =>
    if r_4 = false then
    (some ((-1 : Int32), w_5, w_6))
    else (mm_bd1 (fX9_firstCross N x1 w_6) (fun (r_9 : Int32) =>
    if r_9 < 0 then
    (mm_bd1 (fX9_bendsOf N x1 w_6) (fun (r_12 : Int32) =>
    some (r_12, w_5, w_6)))
    else (some ((-5 : Int32), w_5, w_6))))))) := rfl

set_option maxHeartbeats 4000000 in
set_option maxRecDepth 20000 in
theorem sf_X9_bends {N : Nat} (hN : 700 ≤ N) {x1 : Int32} {x2 : Int32} {v_order1 : List Int32} {v_placeIn : List Int32} (h_0 : v_order1.length = 7) (h_1 : v_placeIn.length = 7) : wp (fX9_bends N x1 x2 v_order1 v_placeIn) (cu3 (fun (r : Int32) (wv_order1 : List Int32) (wv_placeIn : List Int32) => wv_order1.length = 7 ∧ wv_placeIn.length = 7)) := by
  refine wp_of (uf_X9_bends _ _ _ _ _) ?_
  refine wp_in1 ?_
  refine wp_of (uf_X9_isStrip _ _) ?_
  have n_1 := i_64 x1
  have n_2 : (2 : Int64).toInt = 2 := by decide
  have n_3 : (7 : Int64).toInt = 7 := by decide
  refine wp_bd1 (sf_X9_within hN ) (fun r_1 q_4 => ?_)
  rcases q_4 with ⟨rfl, q_4⟩ | ⟨rfl, q_4⟩
  ·
    refine wp_so1 ?_
    show wp _ _
    refine wp_ifn (by decide) ?_
    refine wp_bd3 (sf_X9_isOrder hN h_0 h_1 (by omega) (by omega)) (fun r_4 w_5 w_6 ⟨q_5, q_6⟩ => ?_)
    refine wp_if (fun c_7 => ?_) (fun c_7 => ?_)
    ·
      exact wp_so3 ⟨q_5, q_6⟩
    ·
      refine wp_bd1 (sf_X9_firstCross hN q_6 (by omega) (by omega)) (fun r_9 _ => ?_)
      have n_9 : (0 : Int32).toInt = 0 := by decide
      refine wp_if (fun c_8 => ?_) (fun c_8 => ?_)
      ·
        have dc_8 := i_lt c_8
        refine wp_bd1 (sf_X9_bendsOf hN q_6 (by omega) (by omega)) (fun r_12 _ => ?_)
        exact wp_so3 ⟨q_5, q_6⟩
      ·
        have dc_8 := i_nlt c_8
        exact wp_so3 ⟨q_5, q_6⟩
  ·
    refine wp_so1 ?_
    show wp _ _
    refine wp_ifp (by decide) ?_
    exact wp_so3 ⟨h_0, h_1⟩

theorem uf_X9_looksAt (N : Nat) (x1 : Int32) (x2 : Int32) (v_soughtBy : Int32) (v_sought : Int32) (v_soughtAt : Int32) (v_foundMany : Int32) (v_foundOrder : Int32) (v_order1 : List Int32) (v_placeIn : List Int32) : fX9_looksAt N x1 x2 v_soughtBy v_sought v_soughtAt v_foundMany v_foundOrder v_order1 v_placeIn = mm_bd1 (fX9_firstCross N x1 v_placeIn) (fun (r_1 : Int32) =>
    if r_1 < 0 then
    (if v_soughtBy = 0 then
    (fX9_looksAt_59 N x2 v_soughtBy v_sought v_soughtAt v_foundMany v_foundOrder v_order1 v_placeIn)
    else (if v_soughtBy = (1 : Int32) then
    (mm_bd1 (fX9_bendsOf N x1 v_placeIn) (fun (r_6 : Int32) =>
    if r_6 = v_sought then
    (fX9_looksAt_59 N x2 v_soughtBy v_sought v_soughtAt v_foundMany v_foundOrder v_order1 v_placeIn)
    else (fX9_looksAt_36 N x1 x2 v_soughtBy v_sought v_soughtAt v_foundMany v_foundOrder v_order1 v_placeIn)))
    else (fX9_looksAt_36 N x1 x2 v_soughtBy v_sought v_soughtAt v_foundMany v_foundOrder v_order1 v_placeIn)))
    else (some (v_foundMany, v_foundOrder))) := rfl

theorem uf_X9_looksAt_36 (N : Nat) (x1 : Int32) (x2 : Int32) (v_soughtBy : Int32) (v_sought : Int32) (v_soughtAt : Int32) (v_foundMany : Int32) (v_foundOrder : Int32) (v_order1 : List Int32) (v_placeIn : List Int32) : fX9_looksAt_36 N x1 x2 v_soughtBy v_sought v_soughtAt v_foundMany v_foundOrder v_order1 v_placeIn = if v_soughtBy = (2 : Int32) then
    (mm_ck (mm_inb (x1 - (1 : Int32)) v_order1.length) (if (mm_ig v_order1 (x1 - (1 : Int32))) = v_sought then
    (fX9_looksAt_59 N x2 v_soughtBy v_sought v_soughtAt v_foundMany v_foundOrder v_order1 v_placeIn)
    else (fX9_looksAt_63 N x2 v_soughtBy v_sought v_soughtAt v_foundMany v_foundOrder v_order1 v_placeIn)))
    else (fX9_looksAt_63 N x2 v_soughtBy v_sought v_soughtAt v_foundMany v_foundOrder v_order1 v_placeIn) := rfl

theorem uf_X9_looksAt_59 (N : Nat) (x2 : Int32) (v_soughtBy : Int32) (v_sought : Int32) (v_soughtAt : Int32) (v_foundMany : Int32) (v_foundOrder : Int32) (v_order1 : List Int32) (v_placeIn : List Int32) : fX9_looksAt_59 N x2 v_soughtBy v_sought v_soughtAt v_foundMany v_foundOrder v_order1 v_placeIn = fX9_looksAt_64 N x2 (1 : Int32) v_soughtBy v_sought v_soughtAt v_foundMany v_foundOrder v_order1 v_placeIn := rfl

theorem uf_X9_looksAt_63 (N : Nat) (x2 : Int32) (v_soughtBy : Int32) (v_sought : Int32) (v_soughtAt : Int32) (v_foundMany : Int32) (v_foundOrder : Int32) (v_order1 : List Int32) (v_placeIn : List Int32) : fX9_looksAt_63 N x2 v_soughtBy v_sought v_soughtAt v_foundMany v_foundOrder v_order1 v_placeIn = fX9_looksAt_64 N x2 (0 : Int32) v_soughtBy v_sought v_soughtAt v_foundMany v_foundOrder v_order1 v_placeIn := rfl

theorem uf_X9_looksAt_64 (N : Nat) (x2 : Int32) (s0 : Int32) (v_soughtBy : Int32) (v_sought : Int32) (v_soughtAt : Int32) (v_foundMany : Int32) (v_foundOrder : Int32) (v_order1 : List Int32) (v_placeIn : List Int32) : fX9_looksAt_64 N x2 s0 v_soughtBy v_sought v_soughtAt v_foundMany v_foundOrder v_order1 v_placeIn = if s0 = 0 then
    (some (v_foundMany, v_foundOrder))
    else (if v_foundMany = v_soughtAt then
    (fX9_looksAt_90 N x2 v_soughtBy v_sought v_soughtAt v_foundMany v_foundOrder v_order1 v_placeIn)
    else (fX9_looksAt_90 N v_foundOrder v_soughtBy v_sought v_soughtAt v_foundMany v_foundOrder v_order1 v_placeIn)) := rfl

theorem uf_X9_looksAt_90 (N : Nat) (s0 : Int32) (v_soughtBy : Int32) (v_sought : Int32) (v_soughtAt : Int32) (v_foundMany : Int32) (v_foundOrder : Int32) (v_order1 : List Int32) (v_placeIn : List Int32) : fX9_looksAt_90 N s0 v_soughtBy v_sought v_soughtAt v_foundMany v_foundOrder v_order1 v_placeIn = mm_nm ((v_foundMany + (1 : Int32))) (fun (y_14 : Int32) =>
    some (y_14, s0)) := rfl

set_option maxHeartbeats 4000000 in
set_option maxRecDepth 20000 in
theorem sf_X9_looksAt {N : Nat} (hN : 700 ≤ N) {x1 : Int32} {x2 : Int32} {v_soughtBy : Int32} {v_sought : Int32} {v_soughtAt : Int32} {v_foundMany : Int32} {v_foundOrder : Int32} {v_order1 : List Int32} {v_placeIn : List Int32} (h_0 : v_order1.length = 7) (h_1 : v_placeIn.length = 7) (h_2 : 2 ≤ x1.toInt) (h_3 : x1.toInt ≤ 7) : wp (fX9_looksAt N x1 x2 v_soughtBy v_sought v_soughtAt v_foundMany v_foundOrder v_order1 v_placeIn) (cu2 (fun (wv_foundMany : Int32) (wv_foundOrder : Int32) => True)) := by
  refine wp_of (uf_X9_looksAt _ _ _ _ _ _ _ _ _ _) ?_
  refine wp_bd1 (sf_X9_firstCross hN h_1 h_2 h_3) (fun r_1 _ => ?_)
  have n_2 : (0 : Int32).toInt = 0 := by decide
  refine wp_if (fun c_1 => ?_) (fun c_1 => ?_)
  ·
    have dc_1 := i_lt c_1
    refine wp_if (fun c_3 => ?_) (fun c_3 => ?_)
    ·
      have dc_3 := i_eq c_3
      refine wp_of (uf_X9_looksAt_59 _ _ _ _ _ _ _ _ _) ?_
      refine wp_of (uf_X9_looksAt_64 _ _ _ _ _ _ _ _ _ _) ?_
      refine wp_ifn (by decide) ?_
      refine wp_if (fun c_4 => ?_) (fun c_4 => ?_)
      ·
        have dc_4 := i_eq c_4
        refine wp_of (uf_X9_looksAt_90 _ _ _ _ _ _ _ _ _) ?_
        have n_5 : (1 : Int32).toInt = 1 := by decide
        refine wp_nm (fun y_14 h_y_14 => ?_)
        first | have e_6 := i_addE h_y_14.symm (by omega) (by omega) | obtain ⟨k_6, e_6, e1_6, e2_6⟩ := i_addY h_y_14.symm
        exact wp_so2 trivial
      ·
        have dc_4 := i_ne c_4
        refine wp_of (uf_X9_looksAt_90 _ _ _ _ _ _ _ _ _) ?_
        have n_8 : (1 : Int32).toInt = 1 := by decide
        refine wp_nm (fun y_14__7 h_y_14__7 => ?_)
        first | have e_9 := i_addE h_y_14__7.symm (by omega) (by omega) | obtain ⟨k_9, e_9, e1_9, e2_9⟩ := i_addY h_y_14__7.symm
        exact wp_so2 trivial
    ·
      have dc_3 := i_ne c_3
      have n_11 : (1 : Int32).toInt = 1 := by decide
      refine wp_if (fun c_10 => ?_) (fun c_10 => ?_)
      ·
        have dc_10 := i_eq c_10
        refine wp_bd1 (sf_X9_bendsOf hN h_1 h_2 h_3) (fun r_6 _ => ?_)
        refine wp_if (fun c_12 => ?_) (fun c_12 => ?_)
        ·
          have dc_12 := i_eq c_12
          refine wp_of (uf_X9_looksAt_59 _ _ _ _ _ _ _ _ _) ?_
          refine wp_of (uf_X9_looksAt_64 _ _ _ _ _ _ _ _ _ _) ?_
          refine wp_ifn (by decide) ?_
          refine wp_if (fun c_13 => ?_) (fun c_13 => ?_)
          ·
            have dc_13 := i_eq c_13
            refine wp_of (uf_X9_looksAt_90 _ _ _ _ _ _ _ _ _) ?_
            refine wp_nm (fun y_14__14 h_y_14__14 => ?_)
            first | have e_15 := i_addE h_y_14__14.symm (by omega) (by omega) | obtain ⟨k_15, e_15, e1_15, e2_15⟩ := i_addY h_y_14__14.symm
            exact wp_so2 trivial
          ·
            have dc_13 := i_ne c_13
            refine wp_of (uf_X9_looksAt_90 _ _ _ _ _ _ _ _ _) ?_
            refine wp_nm (fun y_14__16 h_y_14__16 => ?_)
            first | have e_17 := i_addE h_y_14__16.symm (by omega) (by omega) | obtain ⟨k_17, e_17, e1_17, e2_17⟩ := i_addY h_y_14__16.symm
            exact wp_so2 trivial
        ·
          have dc_12 := i_ne c_12
          refine wp_of (uf_X9_looksAt_36 _ _ _ _ _ _ _ _ _ _) ?_
          have n_19 : (2 : Int32).toInt = 2 := by decide
          refine wp_if (fun c_18 => ?_) (fun c_18 => ?_)
          ·
            have dc_18 := i_eq c_18
            generalize hz_z : (x1 - (1 : Int32)) = z
            have e_20 := i_subE hz_z (by omega) (by omega)
            refine wp_ck (i_inb (by omega) (by omega)) ?_
            refine wp_if (fun c_21 => ?_) (fun c_21 => ?_)
            ·
              have dc_21 := i_eq c_21
              refine wp_of (uf_X9_looksAt_59 _ _ _ _ _ _ _ _ _) ?_
              refine wp_of (uf_X9_looksAt_64 _ _ _ _ _ _ _ _ _ _) ?_
              refine wp_ifn (by decide) ?_
              refine wp_if (fun c_22 => ?_) (fun c_22 => ?_)
              ·
                have dc_22 := i_eq c_22
                refine wp_of (uf_X9_looksAt_90 _ _ _ _ _ _ _ _ _) ?_
                refine wp_nm (fun y_14__23 h_y_14__23 => ?_)
                first | have e_24 := i_addE h_y_14__23.symm (by omega) (by omega) | obtain ⟨k_24, e_24, e1_24, e2_24⟩ := i_addY h_y_14__23.symm
                exact wp_so2 trivial
              ·
                have dc_22 := i_ne c_22
                refine wp_of (uf_X9_looksAt_90 _ _ _ _ _ _ _ _ _) ?_
                refine wp_nm (fun y_14__25 h_y_14__25 => ?_)
                first | have e_26 := i_addE h_y_14__25.symm (by omega) (by omega) | obtain ⟨k_26, e_26, e1_26, e2_26⟩ := i_addY h_y_14__25.symm
                exact wp_so2 trivial
            ·
              have dc_21 := i_ne c_21
              refine wp_of (uf_X9_looksAt_63 _ _ _ _ _ _ _ _ _) ?_
              refine wp_of (uf_X9_looksAt_64 _ _ _ _ _ _ _ _ _ _) ?_
              refine wp_ifp (by decide) ?_
              exact wp_so2 trivial
          ·
            have dc_18 := i_ne c_18
            refine wp_of (uf_X9_looksAt_63 _ _ _ _ _ _ _ _ _) ?_
            refine wp_of (uf_X9_looksAt_64 _ _ _ _ _ _ _ _ _ _) ?_
            refine wp_ifp (by decide) ?_
            exact wp_so2 trivial
      ·
        have dc_10 := i_ne c_10
        refine wp_of (uf_X9_looksAt_36 _ _ _ _ _ _ _ _ _ _) ?_
        have n_28 : (2 : Int32).toInt = 2 := by decide
        refine wp_if (fun c_27 => ?_) (fun c_27 => ?_)
        ·
          have dc_27 := i_eq c_27
          generalize hz_z__29 : (x1 - (1 : Int32)) = z__29
          have e_30 := i_subE hz_z__29 (by omega) (by omega)
          refine wp_ck (i_inb (by omega) (by omega)) ?_
          refine wp_if (fun c_31 => ?_) (fun c_31 => ?_)
          ·
            have dc_31 := i_eq c_31
            refine wp_of (uf_X9_looksAt_59 _ _ _ _ _ _ _ _ _) ?_
            refine wp_of (uf_X9_looksAt_64 _ _ _ _ _ _ _ _ _ _) ?_
            refine wp_ifn (by decide) ?_
            refine wp_if (fun c_32 => ?_) (fun c_32 => ?_)
            ·
              have dc_32 := i_eq c_32
              refine wp_of (uf_X9_looksAt_90 _ _ _ _ _ _ _ _ _) ?_
              refine wp_nm (fun y_14__33 h_y_14__33 => ?_)
              first | have e_34 := i_addE h_y_14__33.symm (by omega) (by omega) | obtain ⟨k_34, e_34, e1_34, e2_34⟩ := i_addY h_y_14__33.symm
              exact wp_so2 trivial
            ·
              have dc_32 := i_ne c_32
              refine wp_of (uf_X9_looksAt_90 _ _ _ _ _ _ _ _ _) ?_
              refine wp_nm (fun y_14__35 h_y_14__35 => ?_)
              first | have e_36 := i_addE h_y_14__35.symm (by omega) (by omega) | obtain ⟨k_36, e_36, e1_36, e2_36⟩ := i_addY h_y_14__35.symm
              exact wp_so2 trivial
          ·
            have dc_31 := i_ne c_31
            refine wp_of (uf_X9_looksAt_63 _ _ _ _ _ _ _ _ _) ?_
            refine wp_of (uf_X9_looksAt_64 _ _ _ _ _ _ _ _ _ _) ?_
            refine wp_ifp (by decide) ?_
            exact wp_so2 trivial
        ·
          have dc_27 := i_ne c_27
          refine wp_of (uf_X9_looksAt_63 _ _ _ _ _ _ _ _ _) ?_
          refine wp_of (uf_X9_looksAt_64 _ _ _ _ _ _ _ _ _ _) ?_
          refine wp_ifp (by decide) ?_
          exact wp_so2 trivial
  ·
    have dc_1 := i_nlt c_1
    exact wp_so2 trivial

theorem uf_X9_goesOrders_16 (N : Nat) (go : Int32 → Int32 → Int32 → Int32 → Int32 → Int32 → Int32 → Int32 → Int32 → List Int32 → List Int32 → Option (Int32 × Int32 × List Int32 × List Int32)) (n : Nat) (x1 : Int32) (x2 : Int32) (x3 : Int32) (x4 : Int32) (x5 : Int32) (v_soughtBy : Int32) (v_sought : Int32) (v_soughtAt : Int32) (v_foundMany : Int32) (v_foundOrder : Int32) (v_order1 : List Int32) (v_placeIn : List Int32) : fX9_goesOrders_16 N go (n + 1) x1 x2 x3 x4 x5 v_soughtBy v_sought v_soughtAt v_foundMany v_foundOrder v_order1 v_placeIn = 
    if x1 ≤ x5 then
    (some (v_foundMany, v_foundOrder, v_order1, v_placeIn))
    else (if ((x3 >>> (x5 &&& 31)) &&& (1 : Int32)) = 0 then
    (mm_ck (mm_inb x2 v_order1.length) (mm_nm (mm_is v_order1 x2 x5) (fun (l_8 : List Int32) =>
    mm_ck (mm_inb x5 v_placeIn.length) (mm_nm (mm_is v_placeIn x5 x2) (fun (l_10 : List Int32) =>
    mm_bd4 (go x1 (x2 + (1 : Int32)) (x3 ||| ((1 : Int32) <<< (x5 &&& 31))) ((((10 : Int32) * x4) + x5) + (1 : Int32)) v_soughtBy v_sought v_soughtAt v_foundMany v_foundOrder l_8 l_10) (fun (w_11 : Int32) (w_12 : Int32) (w_13 : List Int32) (w_14 : List Int32) =>
    fX9_goesOrders_71 N go (fX9_goesOrders_16 N go n) x1 x2 x3 x4 x5 v_soughtBy v_sought v_soughtAt w_11 w_12 w_13 w_14))))))
    else (fX9_goesOrders_71 N go (fX9_goesOrders_16 N go n) x1 x2 x3 x4 x5 v_soughtBy v_sought v_soughtAt v_foundMany v_foundOrder v_order1 v_placeIn)) := rfl

theorem uf_X9_goesOrders_71 (N : Nat) (go : Int32 → Int32 → Int32 → Int32 → Int32 → Int32 → Int32 → Int32 → Int32 → List Int32 → List Int32 → Option (Int32 × Int32 × List Int32 × List Int32)) (k_16 : Int32 → Int32 → Int32 → Int32 → Int32 → Int32 → Int32 → Int32 → Int32 → Int32 → List Int32 → List Int32 → Option (Int32 × Int32 × List Int32 × List Int32)) (x1 : Int32) (x2 : Int32) (x3 : Int32) (x4 : Int32) (x5 : Int32) (v_soughtBy : Int32) (v_sought : Int32) (v_soughtAt : Int32) (v_foundMany : Int32) (v_foundOrder : Int32) (v_order1 : List Int32) (v_placeIn : List Int32) : fX9_goesOrders_71 N go k_16 x1 x2 x3 x4 x5 v_soughtBy v_sought v_soughtAt v_foundMany v_foundOrder v_order1 v_placeIn = mm_nm (x5 + (1 : Int32)) (fun (y_16 : Int32) =>
    k_16 x1 x2 x3 x4 y_16 v_soughtBy v_sought v_soughtAt v_foundMany v_foundOrder v_order1 v_placeIn) := rfl

set_option maxHeartbeats 4000000 in
set_option maxRecDepth 20000 in
theorem sf_X9_goesOrders_16 {N : Nat} (hN : 700 ≤ N) {K : Int} {go : Int32 → Int32 → Int32 → Int32 → Int32 → Int32 → Int32 → Int32 → Int32 → List Int32 → List Int32 → Option (Int32 × Int32 × List Int32 × List Int32)} (hgo : ∀ (x1 : Int32) (x2 : Int32) (x3 : Int32) (x4 : Int32) (v_soughtBy : Int32) (v_sought : Int32) (v_soughtAt : Int32) (v_foundMany : Int32) (v_foundOrder : Int32) (v_order1 : List Int32) (v_placeIn : List Int32), v_order1.length = 7 → v_placeIn.length = 7 → 2 ≤ x1.toInt → x1.toInt ≤ 7 → 0 ≤ x2.toInt → x2.toInt ≤ x1.toInt → K ≤ x2.toInt → wp (go x1 x2 x3 x4 v_soughtBy v_sought v_soughtAt v_foundMany v_foundOrder v_order1 v_placeIn) (cu4 (fun (wv_foundMany : Int32) (wv_foundOrder : Int32) (wv_order1 : List Int32) (wv_placeIn : List Int32) => wv_order1.length = 7 ∧ wv_placeIn.length = 7))) : ∀ (n : Nat) (x1 : Int32) (x2 : Int32) (x3 : Int32) (x4 : Int32) (x5 : Int32) (v_soughtBy : Int32) (v_sought : Int32) (v_soughtAt : Int32) (v_foundMany : Int32) (v_foundOrder : Int32) (v_order1 : List Int32) (v_placeIn : List Int32), v_order1.length = 7 → v_placeIn.length = 7 → 2 ≤ x1.toInt → x1.toInt ≤ 7 → 0 ≤ x2.toInt → x2.toInt < x1.toInt → K ≤ x2.toInt + 1 → 0 ≤ x5.toInt → x5.toInt ≤ 7 → (8 - x5.toInt).toNat < n → wp (fX9_goesOrders_16 N go n x1 x2 x3 x4 x5 v_soughtBy v_sought v_soughtAt v_foundMany v_foundOrder v_order1 v_placeIn) (cu4 (fun (wv_foundMany : Int32) (wv_foundOrder : Int32) (wv_order1 : List Int32) (wv_placeIn : List Int32) => wv_order1.length = 7 ∧ wv_placeIn.length = 7)) := by
  intro n
  induction n with
  | zero =>
    intro x1 x2 x3 x4 x5 v_soughtBy v_sought v_soughtAt v_foundMany v_foundOrder v_order1 v_placeIn h_0 h_1 h_2 h_3 h_4 h_5 h_6 h_7 h_8 hm
    exact absurd hm (by omega)
  | succ n ih =>
    intro x1 x2 x3 x4 x5 v_soughtBy v_sought v_soughtAt v_foundMany v_foundOrder v_order1 v_placeIn h_0 h_1 h_2 h_3 h_4 h_5 h_6 h_7 h_8 hm
    refine wp_of (uf_X9_goesOrders_16 _ _ _ _ _ _ _ _ _ _ _ _ _ _ _) ?_
    refine wp_if (fun c_1 => ?_) (fun c_1 => ?_)
    ·
      have dc_1 := i_le c_1
      exact wp_so4 ⟨h_0, h_1⟩
    ·
      have dc_1 := i_nle c_1
      have n_3 : (0 : Int32).toInt = 0 := by decide
      refine wp_if (fun c_2 => ?_) (fun c_2 => ?_)
      ·
        have dc_2 := i_eq c_2
        refine wp_ck (i_inb (by omega) (by omega)) ?_
        refine wp_nm (fun l_8 h_l_8 => ?_)
        have nl_l_8 : l_8.length = 7 := by rw [h_l_8, is_len]; assumption
        refine wp_ck (i_inb (by omega) (by omega)) ?_
        refine wp_nm (fun l_10 h_l_10 => ?_)
        have nl_l_10 : l_10.length = 7 := by rw [h_l_10, is_len]; assumption
        have n_4 : (1 : Int32).toInt = 1 := by decide
        generalize hz_z : (x2 + (1 : Int32)) = z
        have e_5 := i_addE hz_z (by omega) (by omega)
        refine wp_bd4 (hgo _ _ _ _ _ _ _ _ _ _ _ nl_l_8 nl_l_10 h_2 h_3 (by omega) (by omega) (by omega)) (fun w_11 w_12 w_13 w_14 ⟨q_6, q_7⟩ => ?_)
        refine wp_of (uf_X9_goesOrders_71 _ _ _ _ _ _ _ _ _ _ _ _ _ _ _) ?_
        refine wp_nm (fun y_16 h_y_16 => ?_)
        have e_8 := i_addE h_y_16.symm (by omega) (by omega)
        exact ih _ _ _ _ _ _ _ _ _ _ _ _ q_6 q_7 h_2 h_3 h_4 h_5 h_6 (by omega) (by omega) (by omega)
      ·
        have dc_2 := i_ne c_2
        refine wp_of (uf_X9_goesOrders_71 _ _ _ _ _ _ _ _ _ _ _ _ _ _ _) ?_
        have n_10 : (1 : Int32).toInt = 1 := by decide
        refine wp_nm (fun y_16__9 h_y_16__9 => ?_)
        have e_11 := i_addE h_y_16__9.symm (by omega) (by omega)
        exact ih _ _ _ _ _ _ _ _ _ _ _ _ h_0 h_1 h_2 h_3 h_4 h_5 h_6 (by omega) (by omega) (by omega)

theorem uf_X9_goesOrders (N : Nat) (M : Nat) (z0 : Int32) (z1 : Int32) (z2 : Int32) (z3 : Int32) (z4 : Int32) (z5 : Int32) (z6 : Int32) (z7 : Int32) (z8 : Int32) (z9 : List Int32) (z10 : List Int32) : fX9_goesOrders N (M + 1) z0 z1 z2 z3 z4 z5 z6 z7 z8 z9 z10 = (fX9_goesOrderso N (fX9_goesOrders N M)) z0 z1 z2 z3 z4 z5 z6 z7 z8 z9 z10 := rfl

theorem uf_X9_goesOrderso (N : Nat) (go : Int32 → Int32 → Int32 → Int32 → Int32 → Int32 → Int32 → Int32 → Int32 → List Int32 → List Int32 → Option (Int32 × Int32 × List Int32 × List Int32)) (x1 : Int32) (x2 : Int32) (x3 : Int32) (x4 : Int32) (v_soughtBy : Int32) (v_sought : Int32) (v_soughtAt : Int32) (v_foundMany : Int32) (v_foundOrder : Int32) (v_order1 : List Int32) (v_placeIn : List Int32) : fX9_goesOrderso N go x1 x2 x3 x4 v_soughtBy v_sought v_soughtAt v_foundMany v_foundOrder v_order1 v_placeIn = if x2 = x1 then
    (mm_bd2 (fX9_looksAt N x1 x4 v_soughtBy v_sought v_soughtAt v_foundMany v_foundOrder v_order1 v_placeIn) (fun (w_2 : Int32) (w_3 : Int32) =>
    some (w_2, w_3, v_order1, v_placeIn)))
    else (fX9_goesOrders_16 N go N x1 x2 x3 x4 (0 : Int32) v_soughtBy v_sought v_soughtAt v_foundMany v_foundOrder v_order1 v_placeIn) := rfl

set_option maxHeartbeats 4000000 in
set_option maxRecDepth 20000 in
theorem sf_X9_goesOrderso {N : Nat} (hN : 700 ≤ N) {K : Int} {go : Int32 → Int32 → Int32 → Int32 → Int32 → Int32 → Int32 → Int32 → Int32 → List Int32 → List Int32 → Option (Int32 × Int32 × List Int32 × List Int32)} {x1 : Int32} {x2 : Int32} {x3 : Int32} {x4 : Int32} {v_soughtBy : Int32} {v_sought : Int32} {v_soughtAt : Int32} {v_foundMany : Int32} {v_foundOrder : Int32} {v_order1 : List Int32} {v_placeIn : List Int32} (h_0 : v_order1.length = 7) (h_1 : v_placeIn.length = 7) (h_2 : 2 ≤ x1.toInt) (h_3 : x1.toInt ≤ 7) (h_4 : 0 ≤ x2.toInt) (h_5 : x2.toInt ≤ x1.toInt) (hK : K ≤ x2.toInt + 1) (hgo : ∀ (x1 : Int32) (x2 : Int32) (x3 : Int32) (x4 : Int32) (v_soughtBy : Int32) (v_sought : Int32) (v_soughtAt : Int32) (v_foundMany : Int32) (v_foundOrder : Int32) (v_order1 : List Int32) (v_placeIn : List Int32), v_order1.length = 7 → v_placeIn.length = 7 → 2 ≤ x1.toInt → x1.toInt ≤ 7 → 0 ≤ x2.toInt → x2.toInt ≤ x1.toInt → K ≤ x2.toInt → wp (go x1 x2 x3 x4 v_soughtBy v_sought v_soughtAt v_foundMany v_foundOrder v_order1 v_placeIn) (cu4 (fun (wv_foundMany : Int32) (wv_foundOrder : Int32) (wv_order1 : List Int32) (wv_placeIn : List Int32) => wv_order1.length = 7 ∧ wv_placeIn.length = 7))) : wp (fX9_goesOrderso N go x1 x2 x3 x4 v_soughtBy v_sought v_soughtAt v_foundMany v_foundOrder v_order1 v_placeIn) (cu4 (fun (wv_foundMany : Int32) (wv_foundOrder : Int32) (wv_order1 : List Int32) (wv_placeIn : List Int32) => wv_order1.length = 7 ∧ wv_placeIn.length = 7)) := by
  refine wp_of (uf_X9_goesOrderso _ _ _ _ _ _ _ _ _ _ _ _ _) ?_
  refine wp_if (fun c_1 => ?_) (fun c_1 => ?_)
  ·
    have dc_1 := i_eq c_1
    refine wp_bd2 (sf_X9_looksAt hN h_0 h_1 h_2 h_3) (fun w_2 w_3 _ => ?_)
    exact wp_so4 ⟨h_0, h_1⟩
  ·
    have dc_1 := i_ne c_1
    have n_2 : (0 : Int32).toInt = 0 := by decide
    exact sf_X9_goesOrders_16 hN hgo _ _ _ _ _ _ _ _ _ _ _ _ _ h_0 h_1 h_2 h_3 h_4 (by omega) (by omega) (by omega) (by omega) (by omega)
set_option maxHeartbeats 4000000 in
set_option maxRecDepth 20000 in
theorem sf_X9_goesOrders {N : Nat} (hN : 700 ≤ N) : ∀ (M : Nat) (x1 : Int32) (x2 : Int32) (x3 : Int32) (x4 : Int32) (v_soughtBy : Int32) (v_sought : Int32) (v_soughtAt : Int32) (v_foundMany : Int32) (v_foundOrder : Int32) (v_order1 : List Int32) (v_placeIn : List Int32), v_order1.length = 7 → v_placeIn.length = 7 → 2 ≤ x1.toInt → x1.toInt ≤ 7 → 0 ≤ x2.toInt → x2.toInt ≤ x1.toInt → 8 - (M : Int) ≤ x2.toInt → wp (fX9_goesOrders N M x1 x2 x3 x4 v_soughtBy v_sought v_soughtAt v_foundMany v_foundOrder v_order1 v_placeIn) (cu4 (fun (wv_foundMany : Int32) (wv_foundOrder : Int32) (wv_order1 : List Int32) (wv_placeIn : List Int32) => wv_order1.length = 7 ∧ wv_placeIn.length = 7)) := by
  intro M
  induction M with
  | zero =>
    intro x1 x2 x3 x4 v_soughtBy v_sought v_soughtAt v_foundMany v_foundOrder v_order1 v_placeIn h_0 h_1 h_2 h_3 h_4 h_5 hK
    exact absurd hK (by omega)
  | succ M ih =>
    intro x1 x2 x3 x4 v_soughtBy v_sought v_soughtAt v_foundMany v_foundOrder v_order1 v_placeIn h_0 h_1 h_2 h_3 h_4 h_5 hK
    rw [uf_X9_goesOrders]
    exact sf_X9_goesOrderso (K := 8 - (M : Int)) hN h_0 h_1 h_2 h_3 h_4 h_5 (by omega) ih
set_option maxHeartbeats 4000000 in
set_option maxRecDepth 20000 in
theorem sf_X9_goesOrders_go {N : Nat} (hN : 700 ≤ N) : ∀ (x1 : Int32) (x2 : Int32) (x3 : Int32) (x4 : Int32) (v_soughtBy : Int32) (v_sought : Int32) (v_soughtAt : Int32) (v_foundMany : Int32) (v_foundOrder : Int32) (v_order1 : List Int32) (v_placeIn : List Int32), v_order1.length = 7 → v_placeIn.length = 7 → 2 ≤ x1.toInt → x1.toInt ≤ 7 → 0 ≤ x2.toInt → x2.toInt ≤ x1.toInt → (0 : Int) ≤ x2.toInt → wp (fX9_goesOrders N 9 x1 x2 x3 x4 v_soughtBy v_sought v_soughtAt v_foundMany v_foundOrder v_order1 v_placeIn) (cu4 (fun (wv_foundMany : Int32) (wv_foundOrder : Int32) (wv_order1 : List Int32) (wv_placeIn : List Int32) => wv_order1.length = 7 ∧ wv_placeIn.length = 7)) := fun x1 x2 x3 x4 v_soughtBy v_sought v_soughtAt v_foundMany v_foundOrder v_order1 v_placeIn h_0 h_1 h_2 h_3 h_4 h_5 _ => sf_X9_goesOrders hN 9 x1 x2 x3 x4 v_soughtBy v_sought v_soughtAt v_foundMany v_foundOrder v_order1 v_placeIn h_0 h_1 h_2 h_3 h_4 h_5 (by omega)
set_option maxHeartbeats 4000000 in
set_option maxRecDepth 20000 in
theorem sf_X9_goesOrders_at {N : Nat} {M : Nat} (hN : 700 ≤ N) {x1 : Int32} {x2 : Int32} {x3 : Int32} {x4 : Int32} {v_soughtBy : Int32} {v_sought : Int32} {v_soughtAt : Int32} {v_foundMany : Int32} {v_foundOrder : Int32} {v_order1 : List Int32} {v_placeIn : List Int32} (h_0 : v_order1.length = 7) (h_1 : v_placeIn.length = 7) (h_2 : 2 ≤ x1.toInt) (h_3 : x1.toInt ≤ 7) (h_4 : 0 ≤ x2.toInt) (h_5 : x2.toInt ≤ x1.toInt) (hK : 8 - (M : Int) ≤ x2.toInt) : wp (fX9_goesOrders N M x1 x2 x3 x4 v_soughtBy v_sought v_soughtAt v_foundMany v_foundOrder v_order1 v_placeIn) (cu4 (fun (wv_foundMany : Int32) (wv_foundOrder : Int32) (wv_order1 : List Int32) (wv_placeIn : List Int32) => wv_order1.length = 7 ∧ wv_placeIn.length = 7)) := sf_X9_goesOrders hN M x1 x2 x3 x4 v_soughtBy v_sought v_soughtAt v_foundMany v_foundOrder v_order1 v_placeIn h_0 h_1 h_2 h_3 h_4 h_5 hK

theorem uf_X9_seeks (N : Nat) (x1 : Int32) (x2 : Int32) (x3 : Int32) (x4 : Int32) (v_soughtBy : Int32) (v_sought : Int32) (v_soughtAt : Int32) (v_foundMany : Int32) (v_foundOrder : Int32) (v_order1 : List Int32) (v_placeIn : List Int32) : fX9_seeks N x1 x2 x3 x4 v_soughtBy v_sought v_soughtAt v_foundMany v_foundOrder v_order1 v_placeIn = mm_bd4 (fX9_goesOrders N 9 x1 (0 : Int32) (0 : Int32) (0 : Int32) x2 x3 x4 (0 : Int32) (-1 : Int32) v_order1 v_placeIn) (fun (w_1 : Int32) (w_2 : Int32) (w_3 : List Int32) (w_4 : List Int32) =>
    some (x2, x3, x4, w_1, w_2, w_3, w_4)) := rfl

set_option maxHeartbeats 4000000 in
set_option maxRecDepth 20000 in
theorem sf_X9_seeks {N : Nat} (hN : 700 ≤ N) {x1 : Int32} {x2 : Int32} {x3 : Int32} {x4 : Int32} {v_soughtBy : Int32} {v_sought : Int32} {v_soughtAt : Int32} {v_foundMany : Int32} {v_foundOrder : Int32} {v_order1 : List Int32} {v_placeIn : List Int32} (h_0 : v_order1.length = 7) (h_1 : v_placeIn.length = 7) (h_2 : 2 ≤ x1.toInt) (h_3 : x1.toInt ≤ 7) : wp (fX9_seeks N x1 x2 x3 x4 v_soughtBy v_sought v_soughtAt v_foundMany v_foundOrder v_order1 v_placeIn) (cu7 (fun (wv_soughtBy : Int32) (wv_sought : Int32) (wv_soughtAt : Int32) (wv_foundMany : Int32) (wv_foundOrder : Int32) (wv_order1 : List Int32) (wv_placeIn : List Int32) => wv_order1.length = 7 ∧ wv_placeIn.length = 7)) := by
  refine wp_of (uf_X9_seeks _ _ _ _ _ _ _ _ _ _ _ _) ?_
  have n_1 : (0 : Int32).toInt = 0 := by decide
  refine wp_bd4 (sf_X9_goesOrders_at (M := 9) hN h_0 h_1 h_2 h_3 (by omega) (by omega) (by omega)) (fun w_1 w_2 w_3 w_4 ⟨q_2, q_3⟩ => ?_)
  exact wp_so7 ⟨q_2, q_3⟩

theorem uf_X9_orders (N : Nat) (x1 : Int32) (x2 : Int32) (v_soughtBy : Int32) (v_sought : Int32) (v_soughtAt : Int32) (v_foundMany : Int32) (v_foundOrder : Int32) (v_order1 : List Int32) (v_placeIn : List Int32) : fX9_orders N x1 x2 v_soughtBy v_sought v_soughtAt v_foundMany v_foundOrder v_order1 v_placeIn = mm_bd1 (fX9_isStrip N x1) (fun (r_1 : Bool) =>
    if r_1 = false then
    (some ((-1 : Int32), v_soughtBy, v_sought, v_soughtAt, v_foundMany, v_foundOrder, v_order1, v_placeIn))
    else (if (-1 : Int32) ≤ x2 then
    (mm_bd7 (fX9_seeks N x1 (0 : Int32) (0 : Int32) x2 v_soughtBy v_sought v_soughtAt v_foundMany v_foundOrder v_order1 v_placeIn) (fun (w_5 : Int32) (w_6 : Int32) (w_7 : Int32) (w_8 : Int32) (w_9 : Int32) (w_10 : List Int32) (w_11 : List Int32) =>
    if x2 = (-1 : Int32) then
    (some (w_8, w_5, w_6, w_7, w_8, w_9, w_10, w_11))
    else (some (w_9, w_5, w_6, w_7, w_8, w_9, w_10, w_11))))
    else (some ((-1 : Int32), v_soughtBy, v_sought, v_soughtAt, v_foundMany, v_foundOrder, v_order1, v_placeIn)))) := rfl

set_option maxHeartbeats 4000000 in
set_option maxRecDepth 20000 in
theorem sf_X9_orders {N : Nat} (hN : 700 ≤ N) {x1 : Int32} {x2 : Int32} {v_soughtBy : Int32} {v_sought : Int32} {v_soughtAt : Int32} {v_foundMany : Int32} {v_foundOrder : Int32} {v_order1 : List Int32} {v_placeIn : List Int32} (h_0 : v_order1.length = 7) (h_1 : v_placeIn.length = 7) : wp (fX9_orders N x1 x2 v_soughtBy v_sought v_soughtAt v_foundMany v_foundOrder v_order1 v_placeIn) (cu8 (fun (r : Int32) (wv_soughtBy : Int32) (wv_sought : Int32) (wv_soughtAt : Int32) (wv_foundMany : Int32) (wv_foundOrder : Int32) (wv_order1 : List Int32) (wv_placeIn : List Int32) => wv_order1.length = 7 ∧ wv_placeIn.length = 7)) := by
  refine wp_of (uf_X9_orders _ _ _ _ _ _ _ _ _ _) ?_
  refine wp_in1 ?_
  refine wp_of (uf_X9_isStrip _ _) ?_
  have n_1 := i_64 x1
  have n_2 : (2 : Int64).toInt = 2 := by decide
  have n_3 : (7 : Int64).toInt = 7 := by decide
  refine wp_bd1 (sf_X9_within hN ) (fun r_1 q_4 => ?_)
  rcases q_4 with ⟨rfl, q_4⟩ | ⟨rfl, q_4⟩
  ·
    refine wp_so1 ?_
    show wp _ _
    refine wp_ifn (by decide) ?_
    have n_6 : (-1 : Int32).toInt = -1 := by decide
    refine wp_if (fun c_5 => ?_) (fun c_5 => ?_)
    ·
      have dc_5 := i_le c_5
      refine wp_bd7 (sf_X9_seeks hN h_0 h_1 (by omega) (by omega)) (fun w_5 w_6 w_7 w_8 w_9 w_10 w_11 ⟨q_7, q_8⟩ => ?_)
      refine wp_if (fun c_9 => ?_) (fun c_9 => ?_)
      ·
        have dc_9 := i_eq c_9
        exact wp_so8 ⟨q_7, q_8⟩
      ·
        have dc_9 := i_ne c_9
        exact wp_so8 ⟨q_7, q_8⟩
    ·
      have dc_5 := i_nle c_5
      exact wp_so8 ⟨h_0, h_1⟩
  ·
    refine wp_so1 ?_
    show wp _ _
    refine wp_ifp (by decide) ?_
    exact wp_so8 ⟨h_0, h_1⟩

theorem uf_X9_by (N : Nat) (x1 : Int32) (x2 : Int32) (x3 : Int32) (v_soughtBy : Int32) (v_sought : Int32) (v_soughtAt : Int32) (v_foundMany : Int32) (v_foundOrder : Int32) (v_order1 : List Int32) (v_placeIn : List Int32) : fX9_by N x1 x2 x3 v_soughtBy v_sought v_soughtAt v_foundMany v_foundOrder v_order1 v_placeIn = mm_bd1 (fX9_isStrip N x1) (fun (r_1 : Bool) =>
    if r_1 = false then
    (some ((-1 : Int32), v_soughtBy, v_sought, v_soughtAt, v_foundMany, v_foundOrder, v_order1, v_placeIn))
    else (mm_bd1 (fX9_within N ((x2).toInt64) (0 : Int64) ((((1 : Int32) <<< ((x1 - (1 : Int32)) &&& 31)) - (1 : Int32)).toInt64)) (fun (r_4 : Bool) =>
    if r_4 = false then
    (some ((-1 : Int32), v_soughtBy, v_sought, v_soughtAt, v_foundMany, v_foundOrder, v_order1, v_placeIn))
    else (mm_bd1 (fX9_within N ((x3).toInt64) (0 : Int64) (1 : Int64)) (fun (r_7 : Bool) =>
    if r_7 = false then
    (some ((-1 : Int32), v_soughtBy, v_sought, v_soughtAt, v_foundMany, v_foundOrder, v_order1, v_placeIn))
    else (mm_bd7 (fX9_seeks N x1 (1 : Int32) x2 (0 : Int32) v_soughtBy v_sought v_soughtAt v_foundMany v_foundOrder v_order1 v_placeIn) (fun (w_10 : Int32) (w_11 : Int32) (w_12 : Int32) (w_13 : Int32) (w_14 : Int32) (w_15 : List Int32) (w_16 : List Int32) =>
    if x3 = 0 then
    (some (w_13, w_10, w_11, w_12, w_13, w_14, w_15, w_16))
    else (if w_13 = 0 then
    (some ((-2 : Int32), w_10, w_11, w_12, w_13, w_14, w_15, w_16))
    else (some (w_14, w_10, w_11, w_12, w_13, w_14, w_15, w_16)))))))))) := rfl

set_option maxHeartbeats 4000000 in
set_option maxRecDepth 20000 in
theorem sf_X9_by {N : Nat} (hN : 700 ≤ N) {x1 : Int32} {x2 : Int32} {x3 : Int32} {v_soughtBy : Int32} {v_sought : Int32} {v_soughtAt : Int32} {v_foundMany : Int32} {v_foundOrder : Int32} {v_order1 : List Int32} {v_placeIn : List Int32} (h_0 : v_order1.length = 7) (h_1 : v_placeIn.length = 7) : wp (fX9_by N x1 x2 x3 v_soughtBy v_sought v_soughtAt v_foundMany v_foundOrder v_order1 v_placeIn) (cu8 (fun (r : Int32) (wv_soughtBy : Int32) (wv_sought : Int32) (wv_soughtAt : Int32) (wv_foundMany : Int32) (wv_foundOrder : Int32) (wv_order1 : List Int32) (wv_placeIn : List Int32) => wv_order1.length = 7 ∧ wv_placeIn.length = 7)) := by
  refine wp_of (uf_X9_by _ _ _ _ _ _ _ _ _ _ _) ?_
  refine wp_in1 ?_
  refine wp_of (uf_X9_isStrip _ _) ?_
  have n_1 := i_64 x1
  have n_2 : (2 : Int64).toInt = 2 := by decide
  have n_3 : (7 : Int64).toInt = 7 := by decide
  refine wp_bd1 (sf_X9_within hN ) (fun r_1 q_4 => ?_)
  rcases q_4 with ⟨rfl, q_4⟩ | ⟨rfl, q_4⟩
  ·
    refine wp_so1 ?_
    show wp _ _
    refine wp_ifn (by decide) ?_
    have n_5 := i_64 x2
    have n_6 : (0 : Int64).toInt = 0 := by decide
    have n_7 : (1 : Int32).toInt = 1 := by decide
    generalize hz_z : (((1 : Int32) <<< ((x1 - (1 : Int32)) &&& 31)) - (1 : Int32)) = z
    first | have e_8 := i_subE hz_z (by omega) (by omega) | obtain ⟨k_8, e_8, e1_8, e2_8⟩ := i_subY hz_z
    have n_9 := i_64 z
    refine wp_bd1 (sf_X9_within hN ) (fun r_4 q_10 => ?_)
    rcases q_10 with ⟨rfl, q_10⟩ | ⟨rfl, q_10⟩
    ·
      refine wp_ifn (by decide) ?_
      have n_11 := i_64 x3
      have n_12 : (1 : Int64).toInt = 1 := by decide
      refine wp_bd1 (sf_X9_within hN ) (fun r_7 q_13 => ?_)
      rcases q_13 with ⟨rfl, q_13⟩ | ⟨rfl, q_13⟩
      ·
        refine wp_ifn (by decide) ?_
        refine wp_bd7 (sf_X9_seeks hN h_0 h_1 (by omega) (by omega)) (fun w_10 w_11 w_12 w_13 w_14 w_15 w_16 ⟨q_14, q_15⟩ => ?_)
        have n_17 : (0 : Int32).toInt = 0 := by decide
        refine wp_if (fun c_16 => ?_) (fun c_16 => ?_)
        ·
          have dc_16 := i_eq c_16
          exact wp_so8 ⟨q_14, q_15⟩
        ·
          have dc_16 := i_ne c_16
          refine wp_if (fun c_18 => ?_) (fun c_18 => ?_)
          ·
            have dc_18 := i_eq c_18
            exact wp_so8 ⟨q_14, q_15⟩
          ·
            have dc_18 := i_ne c_18
            exact wp_so8 ⟨q_14, q_15⟩
      ·
        refine wp_ifp (by decide) ?_
        exact wp_so8 ⟨h_0, h_1⟩
    ·
      refine wp_ifp (by decide) ?_
      exact wp_so8 ⟨h_0, h_1⟩
  ·
    refine wp_so1 ?_
    show wp _ _
    refine wp_ifp (by decide) ?_
    exact wp_so8 ⟨h_0, h_1⟩

theorem uf_X9_with (N : Nat) (x1 : Int32) (x2 : Int32) (v_soughtBy : Int32) (v_sought : Int32) (v_soughtAt : Int32) (v_foundMany : Int32) (v_foundOrder : Int32) (v_order1 : List Int32) (v_placeIn : List Int32) : fX9_with N x1 x2 v_soughtBy v_sought v_soughtAt v_foundMany v_foundOrder v_order1 v_placeIn = mm_bd1 (fX9_isStrip N x1) (fun (r_1 : Bool) =>
    if r_1 = false then
    (some ((-1 : Int32), v_soughtBy, v_sought, v_soughtAt, v_foundMany, v_foundOrder, v_order1, v_placeIn))
    else (mm_bd1 (fX9_within N ((x2).toInt64) (0 : Int64) ((x1 - (1 : Int32)).toInt64)) (fun (r_4 : Bool) =>
    if r_4 = false then
    (some ((-1 : Int32), v_soughtBy, v_sought, v_soughtAt, v_foundMany, v_foundOrder, v_order1, v_placeIn))
    else (mm_bd7 (fX9_seeks N x1 (2 : Int32) x2 (0 : Int32) v_soughtBy v_sought v_soughtAt v_foundMany v_foundOrder v_order1 v_placeIn) (fun (w_7 : Int32) (w_8 : Int32) (w_9 : Int32) (w_10 : Int32) (w_11 : Int32) (w_12 : List Int32) (w_13 : List Int32) =>
    some (w_10, w_7, w_8, w_9, w_10, w_11, w_12, w_13)))))) := rfl

set_option maxHeartbeats 4000000 in
set_option maxRecDepth 20000 in
theorem sf_X9_with {N : Nat} (hN : 700 ≤ N) {x1 : Int32} {x2 : Int32} {v_soughtBy : Int32} {v_sought : Int32} {v_soughtAt : Int32} {v_foundMany : Int32} {v_foundOrder : Int32} {v_order1 : List Int32} {v_placeIn : List Int32} (h_0 : v_order1.length = 7) (h_1 : v_placeIn.length = 7) : wp (fX9_with N x1 x2 v_soughtBy v_sought v_soughtAt v_foundMany v_foundOrder v_order1 v_placeIn) (cu8 (fun (r : Int32) (wv_soughtBy : Int32) (wv_sought : Int32) (wv_soughtAt : Int32) (wv_foundMany : Int32) (wv_foundOrder : Int32) (wv_order1 : List Int32) (wv_placeIn : List Int32) => wv_order1.length = 7 ∧ wv_placeIn.length = 7)) := by
  refine wp_of (uf_X9_with _ _ _ _ _ _ _ _ _ _) ?_
  refine wp_in1 ?_
  refine wp_of (uf_X9_isStrip _ _) ?_
  have n_1 := i_64 x1
  have n_2 : (2 : Int64).toInt = 2 := by decide
  have n_3 : (7 : Int64).toInt = 7 := by decide
  refine wp_bd1 (sf_X9_within hN ) (fun r_1 q_4 => ?_)
  rcases q_4 with ⟨rfl, q_4⟩ | ⟨rfl, q_4⟩
  ·
    refine wp_so1 ?_
    show wp _ _
    refine wp_ifn (by decide) ?_
    have n_5 := i_64 x2
    have n_6 : (0 : Int64).toInt = 0 := by decide
    have n_7 : (1 : Int32).toInt = 1 := by decide
    generalize hz_z : (x1 - (1 : Int32)) = z
    first | have e_8 := i_subE hz_z (by omega) (by omega) | obtain ⟨k_8, e_8, e1_8, e2_8⟩ := i_subY hz_z
    have n_9 := i_64 z
    refine wp_bd1 (sf_X9_within hN ) (fun r_4 q_10 => ?_)
    rcases q_10 with ⟨rfl, q_10⟩ | ⟨rfl, q_10⟩
    ·
      refine wp_ifn (by decide) ?_
      refine wp_bd7 (sf_X9_seeks hN h_0 h_1 (by omega) (by omega)) (fun w_7 w_8 w_9 w_10 w_11 w_12 w_13 ⟨q_11, q_12⟩ => ?_)
      exact wp_so8 ⟨q_11, q_12⟩
    ·
      refine wp_ifp (by decide) ?_
      exact wp_so8 ⟨h_0, h_1⟩
  ·
    refine wp_so1 ?_
    show wp _ _
    refine wp_ifp (by decide) ?_
    exact wp_so8 ⟨h_0, h_1⟩
end
section
/-! safe -/
theorem uf_X9_body (N : Nat) (x1 : Int32) (v_bodies : Int32) (v_bodyKind : List Int32) : fX9_body N x1 v_bodies v_bodyKind = mm_bd1 (fX9_within N ((x1).toInt64) (0 : Int64) (7 : Int64)) (fun (r_1 : Bool) =>
    if r_1 = false then
    (some ((-1 : Int32), v_bodies, v_bodyKind))
    else (if v_bodies = (50 : Int32) then
    (some ((-3 : Int32), v_bodies, v_bodyKind))
    else (mm_ck (mm_inb v_bodies v_bodyKind.length) (mm_nm (mm_is v_bodyKind v_bodies x1) (fun (l_6 : List Int32) =>
    mm_nm ((v_bodies + (1 : Int32))) (fun (y_7 : Int32) =>
    some ((y_7 - (1 : Int32)), y_7, l_6))))))) := rfl

set_option maxHeartbeats 4000000 in
set_option maxRecDepth 20000 in
theorem sf_X9_body {N : Nat} (hN : 700 ≤ N) {x1 : Int32} {v_bodies : Int32} {v_bodyKind : List Int32} (h_0 : 0 ≤ v_bodies.toInt) (h_1 : v_bodies.toInt ≤ 50) (h_2 : v_bodyKind.length = 50) : wp (fX9_body N x1 v_bodies v_bodyKind) (cu3 (fun (r : Int32) (wv_bodies : Int32) (wv_bodyKind : List Int32) => 0 ≤ wv_bodies.toInt ∧ wv_bodies.toInt ≤ 50 ∧ wv_bodyKind.length = 50)) := by
  refine wp_of (uf_X9_body _ _ _ _) ?_
  have n_1 := i_64 x1
  have n_2 : (0 : Int64).toInt = 0 := by decide
  have n_3 : (7 : Int64).toInt = 7 := by decide
  refine wp_bd1 (sf_X9_within hN ) (fun r_1 q_4 => ?_)
  rcases q_4 with ⟨rfl, q_4⟩ | ⟨rfl, q_4⟩
  ·
    refine wp_ifn (by decide) ?_
    have n_6 : (50 : Int32).toInt = 50 := by decide
    refine wp_if (fun c_5 => ?_) (fun c_5 => ?_)
    ·
      have dc_5 := i_eq c_5
      exact wp_so3 ⟨h_0, h_1, h_2⟩
    ·
      have dc_5 := i_ne c_5
      refine wp_ck (i_inb (by omega) (by omega)) ?_
      refine wp_nm (fun l_6 h_l_6 => ?_)
      have nl_l_6 : l_6.length = 50 := by rw [h_l_6, is_len]; assumption
      have n_7 : (1 : Int32).toInt = 1 := by decide
      refine wp_nm (fun y_7 h_y_7 => ?_)
      have e_8 := i_addE h_y_7.symm (by omega) (by omega)
      exact wp_so3 ⟨(by omega), (by omega), nl_l_6⟩
  ·
    refine wp_ifp (by decide) ?_
    exact wp_so3 ⟨h_0, h_1, h_2⟩

theorem uf_X9_trace (N : Nat) (x1 : Int32) (v_ran : Int32) (v_trace : List Int32) : fX9_trace N x1 v_ran v_trace = if x1 < 0 then
    (some ((-1 : Int32)))
    else (if v_ran ≤ x1 then
    (some ((-1 : Int32)))
    else (if (24 : Int32) ≤ x1 then
    (some ((-1 : Int32)))
    else (mm_ck (mm_inb x1 v_trace.length) (some ((mm_ig v_trace x1)))))) := rfl

set_option maxHeartbeats 4000000 in
set_option maxRecDepth 20000 in
theorem sf_X9_trace {N : Nat} (hN : 700 ≤ N) {x1 : Int32} {v_ran : Int32} {v_trace : List Int32} (h_0 : v_trace.length = 24) : wp (fX9_trace N x1 v_ran v_trace) (fun (r : Int32) => True) := by
  refine wp_of (uf_X9_trace _ _ _ _) ?_
  have n_2 : (0 : Int32).toInt = 0 := by decide
  refine wp_if (fun c_1 => ?_) (fun c_1 => ?_)
  ·
    have dc_1 := i_lt c_1
    exact wp_so1 trivial
  ·
    have dc_1 := i_nlt c_1
    refine wp_if (fun c_3 => ?_) (fun c_3 => ?_)
    ·
      have dc_3 := i_le c_3
      exact wp_so1 trivial
    ·
      have dc_3 := i_nle c_3
      have n_5 : (24 : Int32).toInt = 24 := by decide
      refine wp_if (fun c_4 => ?_) (fun c_4 => ?_)
      ·
        have dc_4 := i_le c_4
        exact wp_so1 trivial
      ·
        have dc_4 := i_nle c_4
        refine wp_ck (i_inb (by omega) (by omega)) ?_
        exact wp_so1 trivial

theorem uf_X9_isBody (N : Nat) (x1 : Int32) (v_bodies : Int32) : fX9_isBody N x1 v_bodies = mm_bd1 (fX9_within N ((x1).toInt64) (0 : Int64) ((v_bodies - (1 : Int32)).toInt64)) (fun (r_1 : Bool) =>
    some (r_1)) := rfl

set_option maxHeartbeats 4000000 in
set_option maxRecDepth 20000 in
theorem sf_X9_isBody {N : Nat} (hN : 700 ≤ N) {x1 : Int32} {v_bodies : Int32} (h_0 : 0 ≤ v_bodies.toInt) (h_1 : v_bodies.toInt ≤ 50) : wp (fX9_isBody N x1 v_bodies) (fun (r : Bool) => True) := by
  refine wp_of (uf_X9_isBody _ _ _) ?_
  have n_1 := i_64 x1
  have n_2 : (0 : Int64).toInt = 0 := by decide
  have n_3 : (1 : Int32).toInt = 1 := by decide
  generalize hz_z : (v_bodies - (1 : Int32)) = z
  have e_4 := i_subE hz_z (by omega) (by omega)
  have n_5 := i_64 z
  refine wp_bd1 (sf_X9_within hN ) (fun r_1 q_6 => ?_)
  rcases q_6 with ⟨rfl, q_6⟩ | ⟨rfl, q_6⟩
  ·
    exact wp_so1 trivial
  ·
    exact wp_so1 trivial

theorem uf_X9_kindOf (N : Nat) (x1 : Int32) (v_bodyKind : List Int32) : fX9_kindOf N x1 v_bodyKind = mm_ck (mm_inb x1 v_bodyKind.length) (some ((mm_ig v_bodyKind x1))) := rfl

set_option maxHeartbeats 4000000 in
set_option maxRecDepth 20000 in
theorem sf_X9_kindOf {N : Nat} (hN : 700 ≤ N) {x1 : Int32} {v_bodyKind : List Int32} (h_0 : v_bodyKind.length = 50) (h_1 : 0 ≤ x1.toInt) (h_2 : x1.toInt < 50) : wp (fX9_kindOf N x1 v_bodyKind) (fun (r : Int32) => True) := by
  refine wp_of (uf_X9_kindOf _ _ _) ?_
  refine wp_ck (i_inb (by omega) (by omega)) ?_
  exact wp_so1 trivial

theorem uf_X9_keep (N : Nat) (x1 : Int32) (x2 : Int32) (v_bodies : Int32) (v_shelf : List Int32) (v_many : List Int32) : fX9_keep N x1 x2 v_bodies v_shelf v_many = mm_bd1 (fX9_isShelf N x1) (fun (r_1 : Bool) =>
    if r_1 = false then
    (some ((-1 : Int32), v_shelf, v_many))
    else (if x2 = (-1 : Int32) then
    (fX9_keep_22 N x1 x2 v_bodies v_shelf v_many)
    else (mm_bd1 (fX9_isBody N x2 v_bodies) (fun (r_5 : Bool) =>
    if r_5 = false then
    (some ((-1 : Int32), v_shelf, v_many))
    else (fX9_keep_22 N x1 x2 v_bodies v_shelf v_many))))) := rfl

theorem uf_X9_keep_22 (N : Nat) (x1 : Int32) (x2 : Int32) (v_bodies : Int32) (v_shelf : List Int32) (v_many : List Int32) : fX9_keep_22 N x1 x2 v_bodies v_shelf v_many = mm_ck (mm_inb x1 v_shelf.length) (mm_nm (mm_is v_shelf x1 x2) (fun (l_9 : List Int32) =>
    mm_ck (mm_inb x1 v_many.length) (mm_nm (mm_is v_many x1 (0 : Int32)) (fun (l_11 : List Int32) =>
    some ((1 : Int32), l_9, l_11))))) := rfl

set_option maxHeartbeats 4000000 in
set_option maxRecDepth 20000 in
theorem sf_X9_keep {N : Nat} (hN : 700 ≤ N) {x1 : Int32} {x2 : Int32} {v_bodies : Int32} {v_shelf : List Int32} {v_many : List Int32} (h_0 : 0 ≤ v_bodies.toInt) (h_1 : v_bodies.toInt ≤ 50) (h_2 : v_shelf.length = 6) (h_3 : v_many.length = 6) (h_4 : zn v_many 0 6 0 61) : wp (fX9_keep N x1 x2 v_bodies v_shelf v_many) (cu3 (fun (r : Int32) (wv_shelf : List Int32) (wv_many : List Int32) => wv_shelf.length = 6 ∧ wv_many.length = 6 ∧ zn wv_many 0 6 0 61)) := by
  refine wp_of (uf_X9_keep _ _ _ _ _ _) ?_
  refine wp_bd1 (sf_X9_isShelf hN ) (fun r_1 q_1 => ?_)
  rcases q_1 with ⟨rfl, q_1⟩ | ⟨rfl, q_1⟩
  ·
    refine wp_ifn (by decide) ?_
    have n_3 : (-1 : Int32).toInt = -1 := by decide
    refine wp_if (fun c_2 => ?_) (fun c_2 => ?_)
    ·
      have dc_2 := i_eq c_2
      refine wp_of (uf_X9_keep_22 _ _ _ _ _ _) ?_
      refine wp_ck (i_inb (by omega) (by omega)) ?_
      refine wp_nm (fun l_9 h_l_9 => ?_)
      have nl_l_9 : l_9.length = 6 := by rw [h_l_9, is_len]; assumption
      refine wp_ck (i_inb (by omega) (by omega)) ?_
      have n_4 : (0 : Int32).toInt = 0 := by decide
      refine wp_nm (fun l_11 h_l_11 => ?_)
      have nl_l_11 : l_11.length = 6 := by rw [h_l_11, is_len]; assumption
      exact wp_so3 ⟨nl_l_9, nl_l_11, (by first | assumption | exact zn_nil (by omega) | (rw [h_l_11]; first | exact zn_out h_4 (by omega) (by omega) | exact zn_in h_4 (by omega) (by omega) (by omega) | exact zn_ext h_4 (by omega) (by omega) (by omega) (by omega) (by omega) | exact zn_out (zn_sub h_4 (by omega) (by omega) (by omega) (by omega)) (by omega) (by omega)) | (exfalso; omega))⟩
    ·
      have dc_2 := i_ne c_2
      refine wp_bd1 (sf_X9_isBody hN h_0 h_1) (fun r_5 _ => ?_)
      refine wp_if (fun c_5 => ?_) (fun c_5 => ?_)
      ·
        exact wp_so3 ⟨h_2, h_3, h_4⟩
      ·
        refine wp_of (uf_X9_keep_22 _ _ _ _ _ _) ?_
        refine wp_ck (i_inb (by omega) (by omega)) ?_
        refine wp_nm (fun l_9__6 h_l_9__6 => ?_)
        have nl_l_9__6 : l_9__6.length = 6 := by rw [h_l_9__6, is_len]; assumption
        refine wp_ck (i_inb (by omega) (by omega)) ?_
        have n_8 : (0 : Int32).toInt = 0 := by decide
        refine wp_nm (fun l_11__7 h_l_11__7 => ?_)
        have nl_l_11__7 : l_11__7.length = 6 := by rw [h_l_11__7, is_len]; assumption
        exact wp_so3 ⟨nl_l_9__6, nl_l_11__7, (by first | assumption | exact zn_nil (by omega) | (rw [h_l_11__7]; first | exact zn_out h_4 (by omega) (by omega) | exact zn_in h_4 (by omega) (by omega) (by omega) | exact zn_ext h_4 (by omega) (by omega) (by omega) (by omega) (by omega) | exact zn_out (zn_sub h_4 (by omega) (by omega) (by omega) (by omega)) (by omega) (by omega)) | (exfalso; omega))⟩
  ·
    refine wp_ifp (by decide) ?_
    exact wp_so3 ⟨h_2, h_3, h_4⟩

theorem uf_X9_row_57 (N : Nat) (n : Nat) (x1 : Int32) (x4 : Int32) (v_shelf : List Int32) (v_many : List Int32) (v_items : List Int64) : fX9_row_57 N (n + 1) x1 x4 v_shelf v_many v_items = 
    if (((60 : Int32) * x1) + (60 : Int32)) ≤ x4 then
    (some ((1 : Int32), v_shelf, v_many, v_items))
    else (mm_ck (mm_inb x4 v_items.length) (mm_nm (mm_ls v_items x4 (0 : Int64)) (fun (l_17 : List Int64) =>
    mm_nm (x4 + (1 : Int32)) (fun (y_18 : Int32) =>
    fX9_row_57 N n x1 y_18 v_shelf v_many l_17)))) := rfl

set_option maxHeartbeats 4000000 in
set_option maxRecDepth 20000 in
theorem sf_X9_row_57 {N : Nat} (hN : 700 ≤ N)  : ∀ (n : Nat) (x1 : Int32) (x4 : Int32) (v_shelf : List Int32) (v_many : List Int32) (v_items : List Int64), v_shelf.length = 6 → v_many.length = 6 → v_items.length = 360 → zn v_many 0 6 0 61 → 0 ≤ x1.toInt → x1.toInt ≤ 5 → 60 * x1.toInt ≤ x4.toInt → x4.toInt ≤ 60 * x1.toInt + 60 → (60 * x1.toInt + 60 - x4.toInt).toNat < n → wp (fX9_row_57 N n x1 x4 v_shelf v_many v_items) (cu4 (fun (r : Int32) (wv_shelf : List Int32) (wv_many : List Int32) (wv_items : List Int64) => wv_shelf.length = 6 ∧ wv_many.length = 6 ∧ wv_items.length = 360 ∧ zn wv_many 0 6 0 61)) := by
  intro n
  induction n with
  | zero =>
    intro x1 x4 v_shelf v_many v_items h_0 h_1 h_2 h_3 h_4 h_5 h_6 h_7 hm
    exact absurd hm (by omega)
  | succ n ih =>
    intro x1 x4 v_shelf v_many v_items h_0 h_1 h_2 h_3 h_4 h_5 h_6 h_7 hm
    refine wp_of (uf_X9_row_57 _ _ _ _ _ _ _) ?_
    have n_2 : (60 : Int32).toInt = 60 := by decide
    generalize hz_z : ((60 : Int32) * x1) = z
    have e_3 := i_mulLE (c := 60) (by decide) hz_z (by omega) (by omega)
    generalize hz_z__4 : (z + (60 : Int32)) = z__4
    have e_5 := i_addE hz_z__4 (by omega) (by omega)
    refine wp_if (fun c_1 => ?_) (fun c_1 => ?_)
    ·
      have dc_1 := i_le c_1
      exact wp_so4 ⟨h_0, h_1, h_2, h_3⟩
    ·
      have dc_1 := i_nle c_1
      refine wp_ck (i_inb (by omega) (by omega)) ?_
      refine wp_nm (fun l_17 h_l_17 => ?_)
      have nl_l_17 : l_17.length = 360 := by rw [h_l_17, ls_len]; assumption
      have n_6 : (1 : Int32).toInt = 1 := by decide
      refine wp_nm (fun y_18 h_y_18 => ?_)
      first | have e_7 := i_addE h_y_18.symm (by omega) (by omega) | obtain ⟨k_7, e_7, e1_7, e2_7⟩ := i_addY h_y_18.symm
      exact ih _ _ _ _ _ h_0 h_1 nl_l_17 h_3 h_4 h_5 (by omega) (by omega) (by omega)

theorem uf_X9_row (N : Nat) (x1 : Int32) (x2 : Int32) (x3 : Int32) (v_shelf : List Int32) (v_many : List Int32) (v_items : List Int64) : fX9_row N x1 x2 x3 v_shelf v_many v_items = mm_bd1 (fX9_isShelf N x1) (fun (r_1 : Bool) =>
    if r_1 = false then
    (some ((-1 : Int32), v_shelf, v_many, v_items))
    else (mm_bd1 (fX9_within N ((x2).toInt64) (0 : Int64) (4 : Int64)) (fun (r_4 : Bool) =>
    if r_4 = false then
    (some ((-1 : Int32), v_shelf, v_many, v_items))
    else (if x3 ≤ (60 : Int32) then
    (if 0 ≤ x3 then
    (mm_nm (((50 : Int32) + x2)) (fun (y_9 : Int32) =>
    mm_ck (mm_inb x1 v_shelf.length) (mm_nm (mm_is v_shelf x1 y_9) (fun (l_11 : List Int32) =>
    mm_ck (mm_inb x1 v_many.length) (mm_nm (mm_is v_many x1 x3) (fun (l_13 : List Int32) =>
    mm_nm (((60 : Int32) * x1)) (fun (y_14 : Int32) =>
    fX9_row_57 N N x1 y_14 l_11 l_13 v_items)))))))
    else (some ((-14 : Int32), v_shelf, v_many, v_items)))
    else (some ((-1 : Int32), v_shelf, v_many, v_items)))))) := rfl

set_option maxHeartbeats 4000000 in
set_option maxRecDepth 20000 in
theorem sf_X9_row {N : Nat} (hN : 700 ≤ N) {x1 : Int32} {x2 : Int32} {x3 : Int32} {v_shelf : List Int32} {v_many : List Int32} {v_items : List Int64} (h_0 : v_shelf.length = 6) (h_1 : v_many.length = 6) (h_2 : v_items.length = 360) (h_3 : zn v_many 0 6 0 61) : wp (fX9_row N x1 x2 x3 v_shelf v_many v_items) (cu4 (fun (r : Int32) (wv_shelf : List Int32) (wv_many : List Int32) (wv_items : List Int64) => wv_shelf.length = 6 ∧ wv_many.length = 6 ∧ wv_items.length = 360 ∧ zn wv_many 0 6 0 61)) := by
  refine wp_of (uf_X9_row _ _ _ _ _ _ _) ?_
  refine wp_bd1 (sf_X9_isShelf hN ) (fun r_1 q_1 => ?_)
  rcases q_1 with ⟨rfl, q_1⟩ | ⟨rfl, q_1⟩
  ·
    refine wp_ifn (by decide) ?_
    have n_2 := i_64 x2
    have n_3 : (0 : Int64).toInt = 0 := by decide
    have n_4 : (4 : Int64).toInt = 4 := by decide
    refine wp_bd1 (sf_X9_within hN ) (fun r_4 q_5 => ?_)
    rcases q_5 with ⟨rfl, q_5⟩ | ⟨rfl, q_5⟩
    ·
      refine wp_ifn (by decide) ?_
      have n_7 : (60 : Int32).toInt = 60 := by decide
      refine wp_if (fun c_6 => ?_) (fun c_6 => ?_)
      ·
        have dc_6 := i_le c_6
        have n_9 : (0 : Int32).toInt = 0 := by decide
        refine wp_if (fun c_8 => ?_) (fun c_8 => ?_)
        ·
          have dc_8 := i_le c_8
          refine wp_nm (fun y_9 _ => ?_)
          refine wp_ck (i_inb (by omega) (by omega)) ?_
          refine wp_nm (fun l_11 h_l_11 => ?_)
          have nl_l_11 : l_11.length = 6 := by rw [h_l_11, is_len]; assumption
          refine wp_ck (i_inb (by omega) (by omega)) ?_
          refine wp_nm (fun l_13 h_l_13 => ?_)
          have nl_l_13 : l_13.length = 6 := by rw [h_l_13, is_len]; assumption
          refine wp_nm (fun y_14 h_y_14 => ?_)
          first | have e_10 := i_mulLE (c := 60) (by decide) h_y_14.symm (by omega) (by omega) | obtain ⟨k_10, e_10, e1_10, e2_10⟩ := i_mulL (c := 60) (by decide) h_y_14.symm
          exact sf_X9_row_57 hN _ _ _ _ _ _ nl_l_11 nl_l_13 h_2 (by first | assumption | exact zn_nil (by omega) | (rw [h_l_13]; first | exact zn_out h_3 (by omega) (by omega) | exact zn_in h_3 (by omega) (by omega) (by omega) | exact zn_ext h_3 (by omega) (by omega) (by omega) (by omega) (by omega) | exact zn_out (zn_sub h_3 (by omega) (by omega) (by omega) (by omega)) (by omega) (by omega)) | (exfalso; omega)) (by omega) (by omega) (by omega) (by omega) (by omega)
        ·
          have dc_8 := i_nle c_8
          exact wp_so4 ⟨h_0, h_1, h_2, h_3⟩
      ·
        have dc_6 := i_nle c_6
        exact wp_so4 ⟨h_0, h_1, h_2, h_3⟩
    ·
      refine wp_ifp (by decide) ?_
      exact wp_so4 ⟨h_0, h_1, h_2, h_3⟩
  ·
    refine wp_ifp (by decide) ?_
    exact wp_so4 ⟨h_0, h_1, h_2, h_3⟩

theorem uf_X9_refusal (N : Nat) (x1 : Int32) (x2 : Int32) (v_shelf : List Int32) (v_many : List Int32) : fX9_refusal N x1 x2 v_shelf v_many = mm_bd1 (fX9_isShelf N x1) (fun (r_1 : Bool) =>
    if r_1 = false then
    (some ((-1 : Int32)))
    else (mm_ck (mm_inb x1 v_shelf.length) (if 0 ≤ (mm_ig v_shelf x1) then
    (mm_ck (mm_inb x1 v_shelf.length) (if (50 : Int32) ≤ (mm_ig v_shelf x1) then
    (if x2 < 0 then
    (some ((-13 : Int32)))
    else (mm_ck (mm_inb x1 v_many.length) (if (mm_ig v_many x1) ≤ x2 then
    (some ((-13 : Int32)))
    else (some ((0 : Int32))))))
    else (some ((-12 : Int32)))))
    else (some ((-11 : Int32)))))) := rfl

set_option maxHeartbeats 4000000 in
set_option maxRecDepth 20000 in
theorem sf_X9_refusal {N : Nat} (hN : 700 ≤ N) {x1 : Int32} {x2 : Int32} {v_shelf : List Int32} {v_many : List Int32} (h_0 : v_shelf.length = 6) (h_1 : v_many.length = 6) (h_2 : zn v_many 0 6 0 61) : wp (fX9_refusal N x1 x2 v_shelf v_many) (fun (r : Int32) => ((r.toInt = 0 → 0 ≤ x1.toInt ∧ x1.toInt ≤ 5 ∧ 0 ≤ x2.toInt ∧ x2.toInt < 60))) := by
  refine wp_of (uf_X9_refusal _ _ _ _ _) ?_
  refine wp_bd1 (sf_X9_isShelf hN ) (fun r_1 q_1 => ?_)
  rcases q_1 with ⟨rfl, q_1⟩ | ⟨rfl, q_1⟩
  ·
    refine wp_ifn (by decide) ?_
    refine wp_ck (i_inb (by omega) (by omega)) ?_
    have n_3 : (0 : Int32).toInt = 0 := by decide
    refine wp_if (fun c_2 => ?_) (fun c_2 => ?_)
    ·
      have dc_2 := i_le c_2
      refine wp_ck (i_inb (by omega) (by omega)) ?_
      have n_5 : (50 : Int32).toInt = 50 := by decide
      refine wp_if (fun c_4 => ?_) (fun c_4 => ?_)
      ·
        have dc_4 := i_le c_4
        refine wp_if (fun c_6 => ?_) (fun c_6 => ?_)
        ·
          have dc_6 := i_lt c_6
          have n_7 : (-13 : Int32).toInt = -13 := by decide
          exact wp_so1 (by omega)
        ·
          have dc_6 := i_nlt c_6
          refine wp_ck (i_inb (by omega) (by omega)) ?_
          obtain ⟨e_9, e1_9⟩ := zn_get h_2 (i := x1) (by omega) (by omega) (by omega) (by omega)
          refine wp_if (fun c_8 => ?_) (fun c_8 => ?_)
          ·
            have dc_8 := i_le c_8
            have n_10 : (-13 : Int32).toInt = -13 := by decide
            exact wp_so1 (by omega)
          ·
            have dc_8 := i_nle c_8
            exact wp_so1 (by omega)
      ·
        have dc_4 := i_nle c_4
        have n_11 : (-12 : Int32).toInt = -12 := by decide
        exact wp_so1 (by omega)
    ·
      have dc_2 := i_nle c_2
      have n_12 : (-11 : Int32).toInt = -11 := by decide
      exact wp_so1 (by omega)
  ·
    refine wp_ifp (by decide) ?_
    have n_13 : (-1 : Int32).toInt = -1 := by decide
    exact wp_so1 (by omega)

theorem uf_X9_asSort (N : Nat) (x0 : Int32) (x1 : Int64) : fX9_asSort N x0 x1 = if x0 = 0 then
    (some ((((x1.toInt32).toInt8.toInt32).toInt64)))
    else (if x0 = (1 : Int32) then
    (some ((((x1.toInt32).toInt16.toInt32).toInt64)))
    else (if x0 = (2 : Int32) then
    (some (((x1.toInt32).toInt64)))
    else (if x0 = (4 : Int32) then
    (if (lg_cmp x1 (0 : Int64)) = 0 then
    (some ((0 : Int64)))
    else (some ((1 : Int64))))
    else (some (x1))))) := rfl

set_option maxHeartbeats 4000000 in
set_option maxRecDepth 20000 in
theorem sf_X9_asSort {N : Nat} (hN : 700 ≤ N) {x0 : Int32} {x1 : Int64}  : wp (fX9_asSort N x0 x1) (fun (r : Int64) => True) := by
  refine wp_of (uf_X9_asSort _ _ _) ?_
  have n_2 : (0 : Int32).toInt = 0 := by decide
  refine wp_if (fun c_1 => ?_) (fun c_1 => ?_)
  ·
    have dc_1 := i_eq c_1
    exact wp_so1 trivial
  ·
    have dc_1 := i_ne c_1
    have n_4 : (1 : Int32).toInt = 1 := by decide
    refine wp_if (fun c_3 => ?_) (fun c_3 => ?_)
    ·
      have dc_3 := i_eq c_3
      exact wp_so1 trivial
    ·
      have dc_3 := i_ne c_3
      have n_6 : (2 : Int32).toInt = 2 := by decide
      refine wp_if (fun c_5 => ?_) (fun c_5 => ?_)
      ·
        have dc_5 := i_eq c_5
        exact wp_so1 trivial
      ·
        have dc_5 := i_ne c_5
        have n_8 : (4 : Int32).toInt = 4 := by decide
        refine wp_if (fun c_7 => ?_) (fun c_7 => ?_)
        ·
          have dc_7 := i_eq c_7
          refine wp_if (fun c_9 => ?_) (fun c_9 => ?_)
          ·
            exact wp_so1 trivial
          ·
            exact wp_so1 trivial
        ·
          have dc_7 := i_ne c_7
          exact wp_so1 trivial

theorem uf_X9_put (N : Nat) (x1 : Int32) (x2 : Int32) (x3 : Int64) (v_shelf : List Int32) (v_many : List Int32) (v_items : List Int64) : fX9_put N x1 x2 x3 v_shelf v_many v_items = mm_bd1 (fX9_refusal N x1 x2 v_shelf v_many) (fun (r_1 : Int32) =>
    if r_1 = 0 then
    (mm_ck (mm_inb x1 v_shelf.length) (mm_bd1 (fX9_asSort N ((mm_ig v_shelf x1) - (50 : Int32)) x3) (fun (r_5 : Int64) =>
    mm_ck (mm_inb (((60 : Int32) * x1) + x2) v_items.length) (mm_nm (mm_ls v_items (((60 : Int32) * x1) + x2) r_5) (fun (l_8 : List Int64) =>
    fX9_put_37 N r_1 v_shelf v_many l_8)))))
    else (fX9_put_37 N r_1 v_shelf v_many v_items)) := rfl

theorem uf_X9_put_37 (N : Nat) (x5 : Int32) (v_shelf : List Int32) (v_many : List Int32) (v_items : List Int64) : fX9_put_37 N x5 v_shelf v_many v_items = if x5 = 0 then
    (some ((1 : Int32), v_items))
    else (some (x5, v_items)) := rfl

set_option maxHeartbeats 4000000 in
set_option maxRecDepth 20000 in
theorem sf_X9_put {N : Nat} (hN : 700 ≤ N) {x1 : Int32} {x2 : Int32} {x3 : Int64} {v_shelf : List Int32} {v_many : List Int32} {v_items : List Int64} (h_0 : v_shelf.length = 6) (h_1 : v_many.length = 6) (h_2 : v_items.length = 360) (h_3 : zn v_many 0 6 0 61) : wp (fX9_put N x1 x2 x3 v_shelf v_many v_items) (cu2 (fun (r : Int32) (wv_items : List Int64) => wv_items.length = 360)) := by
  refine wp_of (uf_X9_put _ _ _ _ _ _ _) ?_
  refine wp_bd1 (sf_X9_refusal hN h_0 h_1 h_3) (fun r_1 q_1 => ?_)
  have n_3 : (0 : Int32).toInt = 0 := by decide
  refine wp_if (fun c_2 => ?_) (fun c_2 => ?_)
  ·
    have dc_2 := i_eq c_2
    refine wp_ck (i_inb (by omega) (by omega)) ?_
    refine wp_bd1 (sf_X9_asSort hN ) (fun r_5 _ => ?_)
    have n_4 : (60 : Int32).toInt = 60 := by decide
    generalize hz_z : ((60 : Int32) * x1) = z
    first | have e_5 := i_mulLE (c := 60) (by decide) hz_z (by omega) (by omega) | obtain ⟨k_5, e_5, e1_5, e2_5⟩ := i_mulL (c := 60) (by decide) hz_z
    generalize hz_z__6 : (z + x2) = z__6
    first | have e_7 := i_addE hz_z__6 (by omega) (by omega) | obtain ⟨k_7, e_7, e1_7, e2_7⟩ := i_addY hz_z__6
    refine wp_ck (i_inb (by omega) (by omega)) ?_
    refine wp_nm (fun l_8 h_l_8 => ?_)
    have nl_l_8 : l_8.length = 360 := by rw [h_l_8, ls_len]; assumption
    refine wp_of (uf_X9_put_37 _ _ _ _ _) ?_
    refine wp_ifp c_2 ?_
    exact wp_so2 nl_l_8
  ·
    have dc_2 := i_ne c_2
    refine wp_of (uf_X9_put_37 _ _ _ _ _) ?_
    refine wp_ifn c_2 ?_
    exact wp_so2 h_2

theorem uf_X9_element (N : Nat) (x1 : Int32) (x2 : Int32) (v_shelf : List Int32) (v_many : List Int32) (v_items : List Int64) : fX9_element N x1 x2 v_shelf v_many v_items = mm_bd1 (fX9_refusal N x1 x2 v_shelf v_many) (fun (r_1 : Int32) =>
    if r_1 = 0 then
    (mm_ck (mm_inb (((60 : Int32) * x1) + x2) v_items.length) (some ((mm_lg v_items (((60 : Int32) * x1) + x2)))))
    else (some ((-9223372036854775808 : Int64)))) := rfl

set_option maxHeartbeats 4000000 in
set_option maxRecDepth 20000 in
theorem sf_X9_element {N : Nat} (hN : 700 ≤ N) {x1 : Int32} {x2 : Int32} {v_shelf : List Int32} {v_many : List Int32} {v_items : List Int64} (h_0 : v_shelf.length = 6) (h_1 : v_many.length = 6) (h_2 : v_items.length = 360) (h_3 : zn v_many 0 6 0 61) : wp (fX9_element N x1 x2 v_shelf v_many v_items) (fun (r : Int64) => True) := by
  refine wp_of (uf_X9_element _ _ _ _ _ _) ?_
  refine wp_bd1 (sf_X9_refusal hN h_0 h_1 h_3) (fun r_1 q_1 => ?_)
  have n_3 : (0 : Int32).toInt = 0 := by decide
  refine wp_if (fun c_2 => ?_) (fun c_2 => ?_)
  ·
    have dc_2 := i_eq c_2
    have n_4 : (60 : Int32).toInt = 60 := by decide
    generalize hz_z : ((60 : Int32) * x1) = z
    first | have e_5 := i_mulLE (c := 60) (by decide) hz_z (by omega) (by omega) | obtain ⟨k_5, e_5, e1_5, e2_5⟩ := i_mulL (c := 60) (by decide) hz_z
    generalize hz_z__6 : (z + x2) = z__6
    first | have e_7 := i_addE hz_z__6 (by omega) (by omega) | obtain ⟨k_7, e_7, e1_7, e2_7⟩ := i_addY hz_z__6
    refine wp_ck (i_inb (by omega) (by omega)) ?_
    exact wp_so1 trivial
  ·
    have dc_2 := i_ne c_2
    exact wp_so1 trivial

theorem uf_X9_shift_150 (N : Nat) (n : Nat) (x3 : Int32) (x4 : Int32) (x5 : Int32) (x6 : Int32) (v_shelf : List Int32) (v_many : List Int32) (v_items : List Int64) (v_carried : List Int64) : fX9_shift_150 N (n + 1) x3 x4 x5 x6 v_shelf v_many v_items v_carried = 
    if x5 ≤ x6 then
    (some (x5, v_items, v_carried))
    else (mm_ck (mm_inb x6 v_carried.length) (mm_nm ((mm_lg v_carried x6)) (fun (y_31 : Int64) =>
    mm_ck (mm_inb ((((60 : Int32) * x3) + x4) + x6) v_items.length) (mm_nm (mm_ls v_items ((((60 : Int32) * x3) + x4) + x6) y_31) (fun (l_33 : List Int64) =>
    mm_nm (x6 + (1 : Int32)) (fun (y_34 : Int32) =>
    fX9_shift_150 N n x3 x4 x5 y_34 v_shelf v_many l_33 v_carried)))))) := rfl

set_option maxHeartbeats 4000000 in
set_option maxRecDepth 20000 in
theorem sf_X9_shift_150 {N : Nat} (hN : 700 ≤ N)  : ∀ (n : Nat) (x3 : Int32) (x4 : Int32) (x5 : Int32) (x6 : Int32) (v_shelf : List Int32) (v_many : List Int32) (v_items : List Int64) (v_carried : List Int64), v_shelf.length = 6 → v_many.length = 6 → v_items.length = 360 → v_carried.length = 60 → zn v_many 0 6 0 61 → 0 ≤ x3.toInt → x3.toInt ≤ 5 → 0 ≤ x4.toInt → 0 ≤ x5.toInt → x5.toInt ≤ 60 → x4.toInt + x5.toInt ≤ 60 → 0 ≤ x6.toInt → x6.toInt ≤ x5.toInt → (x5.toInt - x6.toInt).toNat < n → wp (fX9_shift_150 N n x3 x4 x5 x6 v_shelf v_many v_items v_carried) (cu3 (fun (r : Int32) (wv_items : List Int64) (wv_carried : List Int64) => wv_items.length = 360 ∧ wv_carried.length = 60)) := by
  intro n
  induction n with
  | zero =>
    intro x3 x4 x5 x6 v_shelf v_many v_items v_carried h_0 h_1 h_2 h_3 h_4 h_5 h_6 h_7 h_8 h_9 h_10 h_11 h_12 hm
    exact absurd hm (by omega)
  | succ n ih =>
    intro x3 x4 x5 x6 v_shelf v_many v_items v_carried h_0 h_1 h_2 h_3 h_4 h_5 h_6 h_7 h_8 h_9 h_10 h_11 h_12 hm
    refine wp_of (uf_X9_shift_150 _ _ _ _ _ _ _ _ _ _) ?_
    refine wp_if (fun c_1 => ?_) (fun c_1 => ?_)
    ·
      have dc_1 := i_le c_1
      exact wp_so3 ⟨h_2, h_3⟩
    ·
      have dc_1 := i_nle c_1
      refine wp_ck (i_inb (by omega) (by omega)) ?_
      refine wp_nm (fun y_31 _ => ?_)
      have n_2 : (60 : Int32).toInt = 60 := by decide
      generalize hz_z : ((60 : Int32) * x3) = z
      have e_3 := i_mulLE (c := 60) (by decide) hz_z (by omega) (by omega)
      generalize hz_z__4 : (z + x4) = z__4
      first | have e_5 := i_addE hz_z__4 (by omega) (by omega) | obtain ⟨k_5, e_5, e1_5, e2_5⟩ := i_addY hz_z__4
      generalize hz_z__6 : (z__4 + x6) = z__6
      first | have e_7 := i_addE hz_z__6 (by omega) (by omega) | obtain ⟨k_7, e_7, e1_7, e2_7⟩ := i_addY hz_z__6
      refine wp_ck (i_inb (by omega) (by omega)) ?_
      refine wp_nm (fun l_33 h_l_33 => ?_)
      have nl_l_33 : l_33.length = 360 := by rw [h_l_33, ls_len]; assumption
      have n_8 : (1 : Int32).toInt = 1 := by decide
      refine wp_nm (fun y_34 h_y_34 => ?_)
      have e_9 := i_addE h_y_34.symm (by omega) (by omega)
      exact ih _ _ _ _ _ _ _ _ h_0 h_1 nl_l_33 h_3 h_4 h_5 h_6 h_7 h_8 h_9 h_10 (by omega) (by omega) (by omega)

theorem uf_X9_shift_113 (N : Nat) (n : Nat) (x1 : Int32) (x2 : Int32) (x3 : Int32) (x4 : Int32) (x5 : Int32) (x6 : Int32) (v_shelf : List Int32) (v_many : List Int32) (v_items : List Int64) (v_carried : List Int64) : fX9_shift_113 N (n + 1) x1 x2 x3 x4 x5 x6 v_shelf v_many v_items v_carried = 
    if x5 ≤ x6 then
    (fX9_shift_150 N N x3 x4 x5 (0 : Int32) v_shelf v_many v_items v_carried)
    else (mm_ck (mm_inb ((((60 : Int32) * x1) + x2) + x6) v_items.length) (mm_nm ((mm_lg v_items ((((60 : Int32) * x1) + x2) + x6))) (fun (y_25 : Int64) =>
    mm_ck (mm_inb x6 v_carried.length) (mm_nm (mm_ls v_carried x6 y_25) (fun (l_27 : List Int64) =>
    mm_nm (x6 + (1 : Int32)) (fun (y_28 : Int32) =>
    fX9_shift_113 N n x1 x2 x3 x4 x5 y_28 v_shelf v_many v_items l_27)))))) := rfl

set_option maxHeartbeats 4000000 in
set_option maxRecDepth 20000 in
theorem sf_X9_shift_113 {N : Nat} (hN : 700 ≤ N)  : ∀ (n : Nat) (x1 : Int32) (x2 : Int32) (x3 : Int32) (x4 : Int32) (x5 : Int32) (x6 : Int32) (v_shelf : List Int32) (v_many : List Int32) (v_items : List Int64) (v_carried : List Int64), v_shelf.length = 6 → v_many.length = 6 → v_items.length = 360 → v_carried.length = 60 → zn v_many 0 6 0 61 → 0 ≤ x1.toInt → x1.toInt ≤ 5 → 0 ≤ x3.toInt → x3.toInt ≤ 5 → 0 ≤ x2.toInt → 0 ≤ x4.toInt → 0 ≤ x5.toInt → x5.toInt ≤ 60 → x2.toInt + x5.toInt ≤ 60 → x4.toInt + x5.toInt ≤ 60 → 0 ≤ x6.toInt → x6.toInt ≤ x5.toInt → (x5.toInt - x6.toInt).toNat < n → wp (fX9_shift_113 N n x1 x2 x3 x4 x5 x6 v_shelf v_many v_items v_carried) (cu3 (fun (r : Int32) (wv_items : List Int64) (wv_carried : List Int64) => wv_items.length = 360 ∧ wv_carried.length = 60)) := by
  intro n
  induction n with
  | zero =>
    intro x1 x2 x3 x4 x5 x6 v_shelf v_many v_items v_carried h_0 h_1 h_2 h_3 h_4 h_5 h_6 h_7 h_8 h_9 h_10 h_11 h_12 h_13 h_14 h_15 h_16 hm
    exact absurd hm (by omega)
  | succ n ih =>
    intro x1 x2 x3 x4 x5 x6 v_shelf v_many v_items v_carried h_0 h_1 h_2 h_3 h_4 h_5 h_6 h_7 h_8 h_9 h_10 h_11 h_12 h_13 h_14 h_15 h_16 hm
    refine wp_of (uf_X9_shift_113 _ _ _ _ _ _ _ _ _ _ _ _) ?_
    refine wp_if (fun c_1 => ?_) (fun c_1 => ?_)
    ·
      have dc_1 := i_le c_1
      have n_2 : (0 : Int32).toInt = 0 := by decide
      exact sf_X9_shift_150 hN _ _ _ _ _ _ _ _ _ h_0 h_1 h_2 h_3 h_4 h_7 h_8 h_10 h_11 h_12 h_14 (by omega) (by omega) (by omega)
    ·
      have dc_1 := i_nle c_1
      have n_3 : (60 : Int32).toInt = 60 := by decide
      generalize hz_z : ((60 : Int32) * x1) = z
      have e_4 := i_mulLE (c := 60) (by decide) hz_z (by omega) (by omega)
      generalize hz_z__5 : (z + x2) = z__5
      first | have e_6 := i_addE hz_z__5 (by omega) (by omega) | obtain ⟨k_6, e_6, e1_6, e2_6⟩ := i_addY hz_z__5
      generalize hz_z__7 : (z__5 + x6) = z__7
      first | have e_8 := i_addE hz_z__7 (by omega) (by omega) | obtain ⟨k_8, e_8, e1_8, e2_8⟩ := i_addY hz_z__7
      refine wp_ck (i_inb (by omega) (by omega)) ?_
      refine wp_nm (fun y_25 _ => ?_)
      refine wp_ck (i_inb (by omega) (by omega)) ?_
      refine wp_nm (fun l_27 h_l_27 => ?_)
      have nl_l_27 : l_27.length = 60 := by rw [h_l_27, ls_len]; assumption
      have n_9 : (1 : Int32).toInt = 1 := by decide
      refine wp_nm (fun y_28 h_y_28 => ?_)
      have e_10 := i_addE h_y_28.symm (by omega) (by omega)
      exact ih _ _ _ _ _ _ _ _ _ _ h_0 h_1 h_2 nl_l_27 h_4 h_5 h_6 h_7 h_8 h_9 h_10 h_11 h_12 h_13 h_14 (by omega) (by omega) (by omega)

theorem uf_X9_shift (N : Nat) (x1 : Int32) (x2 : Int32) (x3 : Int32) (x4 : Int32) (x5 : Int32) (v_shelf : List Int32) (v_many : List Int32) (v_items : List Int64) (v_carried : List Int64) : fX9_shift N x1 x2 x3 x4 x5 v_shelf v_many v_items v_carried = mm_bd1 (fX9_isShelf N x1) (fun (r_1 : Bool) =>
    if r_1 = false then
    (some ((-1 : Int32), v_items, v_carried))
    else (mm_bd1 (fX9_isShelf N x3) (fun (r_4 : Bool) =>
    if r_4 = false then
    (some ((-1 : Int32), v_items, v_carried))
    else (mm_ck (mm_inb x1 v_shelf.length) (if (mm_ig v_shelf x1) < 0 then
    (some ((-11 : Int32), v_items, v_carried))
    else (mm_ck (mm_inb x3 v_shelf.length) (if 0 ≤ (mm_ig v_shelf x3) then
    (mm_ck (mm_inb x1 v_shelf.length) (if (mm_ig v_shelf x1) < (50 : Int32) then
    (some ((-12 : Int32), v_items, v_carried))
    else (mm_ck (mm_inb x1 v_shelf.length) (mm_ck (mm_inb x3 v_shelf.length) (if (mm_ig v_shelf x1) = (mm_ig v_shelf x3) then
    (if x5 < 0 then
    (some ((-13 : Int32), v_items, v_carried))
    else (if x2 < 0 then
    (some ((-13 : Int32), v_items, v_carried))
    else (if x4 < 0 then
    (some ((-13 : Int32), v_items, v_carried))
    else (mm_ck (mm_inb x1 v_many.length) (if ((mm_ig v_many x1) - x5) < x2 then
    (some ((-13 : Int32), v_items, v_carried))
    else (mm_ck (mm_inb x3 v_many.length) (if x4 ≤ ((mm_ig v_many x3) - x5) then
    (fX9_shift_113 N N x1 x2 x3 x4 x5 (0 : Int32) v_shelf v_many v_items v_carried)
    else (some ((-13 : Int32), v_items, v_carried)))))))))
    else (some ((-12 : Int32), v_items, v_carried)))))))
    else (some ((-11 : Int32), v_items, v_carried))))))))) := rfl

set_option maxHeartbeats 4000000 in
set_option maxRecDepth 20000 in
theorem sf_X9_shift {N : Nat} (hN : 700 ≤ N) {x1 : Int32} {x2 : Int32} {x3 : Int32} {x4 : Int32} {x5 : Int32} {v_shelf : List Int32} {v_many : List Int32} {v_items : List Int64} {v_carried : List Int64} (h_0 : v_shelf.length = 6) (h_1 : v_many.length = 6) (h_2 : v_items.length = 360) (h_3 : v_carried.length = 60) (h_4 : zn v_many 0 6 0 61) : wp (fX9_shift N x1 x2 x3 x4 x5 v_shelf v_many v_items v_carried) (cu3 (fun (r : Int32) (wv_items : List Int64) (wv_carried : List Int64) => wv_items.length = 360 ∧ wv_carried.length = 60)) := by
  have hx2 : x2.toInt < 2147483648 := Int32.toInt_lt x2
  have hx4 : x4.toInt < 2147483648 := Int32.toInt_lt x4
  have hx5 : x5.toInt < 2147483648 := Int32.toInt_lt x5
  have hy2 : -2147483648 ≤ x2.toInt := Int32.le_toInt x2
  have hy4 : -2147483648 ≤ x4.toInt := Int32.le_toInt x4
  have hy5 : -2147483648 ≤ x5.toInt := Int32.le_toInt x5
  refine wp_of (uf_X9_shift _ _ _ _ _ _ _ _ _ _) ?_
  refine wp_bd1 (sf_X9_isShelf hN ) (fun r_1 q_1 => ?_)
  rcases q_1 with ⟨rfl, q_1⟩ | ⟨rfl, q_1⟩
  ·
    refine wp_ifn (by decide) ?_
    refine wp_bd1 (sf_X9_isShelf hN ) (fun r_4 q_2 => ?_)
    rcases q_2 with ⟨rfl, q_2⟩ | ⟨rfl, q_2⟩
    ·
      refine wp_ifn (by decide) ?_
      refine wp_ck (i_inb (by omega) (by omega)) ?_
      have n_4 : (0 : Int32).toInt = 0 := by decide
      refine wp_if (fun c_3 => ?_) (fun c_3 => ?_)
      ·
        have dc_3 := i_lt c_3
        exact wp_so3 ⟨h_2, h_3⟩
      ·
        have dc_3 := i_nlt c_3
        refine wp_ck (i_inb (by omega) (by omega)) ?_
        refine wp_if (fun c_5 => ?_) (fun c_5 => ?_)
        ·
          have dc_5 := i_le c_5
          refine wp_ck (i_inb (by omega) (by omega)) ?_
          have n_7 : (50 : Int32).toInt = 50 := by decide
          refine wp_if (fun c_6 => ?_) (fun c_6 => ?_)
          ·
            have dc_6 := i_lt c_6
            exact wp_so3 ⟨h_2, h_3⟩
          ·
            have dc_6 := i_nlt c_6
            refine wp_ck (i_inb (by omega) (by omega)) ?_
            refine wp_ck (i_inb (by omega) (by omega)) ?_
            refine wp_if (fun c_8 => ?_) (fun c_8 => ?_)
            ·
              have dc_8 := i_eq c_8
              refine wp_if (fun c_9 => ?_) (fun c_9 => ?_)
              ·
                have dc_9 := i_lt c_9
                exact wp_so3 ⟨h_2, h_3⟩
              ·
                have dc_9 := i_nlt c_9
                refine wp_if (fun c_10 => ?_) (fun c_10 => ?_)
                ·
                  have dc_10 := i_lt c_10
                  exact wp_so3 ⟨h_2, h_3⟩
                ·
                  have dc_10 := i_nlt c_10
                  refine wp_if (fun c_11 => ?_) (fun c_11 => ?_)
                  ·
                    have dc_11 := i_lt c_11
                    exact wp_so3 ⟨h_2, h_3⟩
                  ·
                    have dc_11 := i_nlt c_11
                    refine wp_ck (i_inb (by omega) (by omega)) ?_
                    obtain ⟨e_13, e1_13⟩ := zn_get h_4 (i := x1) (by omega) (by omega) (by omega) (by omega)
                    generalize hz_z : ((mm_ig v_many x1) - x5) = z
                    first | have e_14 := i_subE hz_z (by omega) (by omega) | obtain ⟨k_14, e_14, e1_14, e2_14⟩ := i_subY hz_z
                    refine wp_if (fun c_12 => ?_) (fun c_12 => ?_)
                    ·
                      have dc_12 := i_lt c_12
                      exact wp_so3 ⟨h_2, h_3⟩
                    ·
                      have dc_12 := i_nlt c_12
                      refine wp_ck (i_inb (by omega) (by omega)) ?_
                      obtain ⟨e_16, e1_16⟩ := zn_get h_4 (i := x3) (by omega) (by omega) (by omega) (by omega)
                      generalize hz_z__17 : ((mm_ig v_many x3) - x5) = z__17
                      first | have e_18 := i_subE hz_z__17 (by omega) (by omega) | obtain ⟨k_18, e_18, e1_18, e2_18⟩ := i_subY hz_z__17
                      refine wp_if (fun c_15 => ?_) (fun c_15 => ?_)
                      ·
                        have dc_15 := i_le c_15
                        exact sf_X9_shift_113 hN _ _ _ _ _ _ _ _ _ _ _ h_0 h_1 h_2 h_3 h_4 (by omega) (by omega) (by omega) (by omega) (by omega) (by omega) (by omega) (by omega) (by omega) (by omega) (by omega) (by omega) (by omega)
                      ·
                        have dc_15 := i_nle c_15
                        exact wp_so3 ⟨h_2, h_3⟩
            ·
              have dc_8 := i_ne c_8
              exact wp_so3 ⟨h_2, h_3⟩
        ·
          have dc_5 := i_nle c_5
          exact wp_so3 ⟨h_2, h_3⟩
    ·
      refine wp_ifp (by decide) ?_
      exact wp_so3 ⟨h_2, h_3⟩
  ·
    refine wp_ifp (by decide) ?_
    exact wp_so3 ⟨h_2, h_3⟩

theorem uf_X9_above (N : Nat) (x0 : Int32) : fX9_above N x0 = if x0 = (3 : Int32) then
    (some ((2 : Int32)))
    else (if x0 = (5 : Int32) then
    (some ((3 : Int32)))
    else (if x0 = (6 : Int32) then
    (some ((1 : Int32)))
    else (if x0 = (7 : Int32) then
    (some ((4 : Int32)))
    else (some ((0 : Int32)))))) := rfl

set_option maxHeartbeats 4000000 in
set_option maxRecDepth 20000 in
theorem sf_X9_above {N : Nat} (hN : 700 ≤ N) {x0 : Int32}  : wp (fX9_above N x0) (fun (r : Int32) => 0 ≤ r.toInt ∧ ((0 < x0.toInt → r.toInt < x0.toInt)) ∧ r.toInt ≤ 7) := by
  refine wp_of (uf_X9_above _ _) ?_
  have n_2 : (3 : Int32).toInt = 3 := by decide
  refine wp_if (fun c_1 => ?_) (fun c_1 => ?_)
  ·
    have dc_1 := i_eq c_1
    have n_3 : (2 : Int32).toInt = 2 := by decide
    exact wp_so1 ⟨(by omega), (by omega), (by omega)⟩
  ·
    have dc_1 := i_ne c_1
    have n_5 : (5 : Int32).toInt = 5 := by decide
    refine wp_if (fun c_4 => ?_) (fun c_4 => ?_)
    ·
      have dc_4 := i_eq c_4
      exact wp_so1 ⟨(by omega), (by omega), (by omega)⟩
    ·
      have dc_4 := i_ne c_4
      have n_7 : (6 : Int32).toInt = 6 := by decide
      refine wp_if (fun c_6 => ?_) (fun c_6 => ?_)
      ·
        have dc_6 := i_eq c_6
        have n_8 : (1 : Int32).toInt = 1 := by decide
        exact wp_so1 ⟨(by omega), (by omega), (by omega)⟩
      ·
        have dc_6 := i_ne c_6
        have n_10 : (7 : Int32).toInt = 7 := by decide
        refine wp_if (fun c_9 => ?_) (fun c_9 => ?_)
        ·
          have dc_9 := i_eq c_9
          have n_11 : (4 : Int32).toInt = 4 := by decide
          exact wp_so1 ⟨(by omega), (by omega), (by omega)⟩
        ·
          have dc_9 := i_ne c_9
          have n_12 : (0 : Int32).toInt = 0 := by decide
          exact wp_so1 ⟨(by omega), (by omega), (by omega)⟩

theorem uf_X9_taken_58 (N : Nat) (n : Nat) (x1 : Int32) (x2 : Int32) (x3 : Int32) (v_bodyKind : List Int32) (v_shelf : List Int32) : fX9_taken_58 N (n + 1) x1 x2 x3 v_bodyKind v_shelf = 
    if x3 = x2 then
    (fX9_taken_75 N x1 x2 x3 v_bodyKind v_shelf)
    else (if x3 ≤ 0 then
    (fX9_taken_75 N x1 x2 x3 v_bodyKind v_shelf)
    else (mm_bd1 (fX9_above N x3) (fun (r_16 : Int32) =>
    fX9_taken_58 N n x1 x2 r_16 v_bodyKind v_shelf))) := rfl

theorem uf_X9_taken_75 (N : Nat) (x1 : Int32) (x2 : Int32) (x3 : Int32) (v_bodyKind : List Int32) (v_shelf : List Int32) : fX9_taken_75 N x1 x2 x3 v_bodyKind v_shelf = if x3 = x2 then
    (mm_ck (mm_inb x1 v_shelf.length) (mm_bd1 (fX9_kindOf N (mm_ig v_shelf x1) v_bodyKind) (fun (r_20 : Int32) =>
    some (r_20))))
    else (some ((-12 : Int32))) := rfl

set_option maxHeartbeats 4000000 in
set_option maxRecDepth 20000 in
theorem sf_X9_taken_58 {N : Nat} (hN : 700 ≤ N)  : ∀ (n : Nat) (x1 : Int32) (x2 : Int32) (x3 : Int32) (v_bodyKind : List Int32) (v_shelf : List Int32), v_bodyKind.length = 50 → v_shelf.length = 6 → 0 ≤ x1.toInt → x1.toInt ≤ 5 → 0 ≤ (mm_ig v_shelf x1).toInt → (mm_ig v_shelf x1).toInt < 50 → (min x3.toInt 8).toNat < n → wp (fX9_taken_58 N n x1 x2 x3 v_bodyKind v_shelf) (fun (r : Int32) => True) := by
  intro n
  induction n with
  | zero =>
    intro x1 x2 x3 v_bodyKind v_shelf h_0 h_1 h_2 h_3 h_4 h_5 hm
    exact absurd hm (by omega)
  | succ n ih =>
    intro x1 x2 x3 v_bodyKind v_shelf h_0 h_1 h_2 h_3 h_4 h_5 hm
    refine wp_of (uf_X9_taken_58 _ _ _ _ _ _ _) ?_
    refine wp_if (fun c_1 => ?_) (fun c_1 => ?_)
    ·
      have dc_1 := i_eq c_1
      refine wp_of (uf_X9_taken_75 _ _ _ _ _ _) ?_
      refine wp_ifp c_1 ?_
      refine wp_ck (i_inb (by omega) (by omega)) ?_
      refine wp_bd1 (sf_X9_kindOf hN h_0 h_4 h_5) (fun r_20 _ => ?_)
      exact wp_so1 trivial
    ·
      have dc_1 := i_ne c_1
      have n_3 : (0 : Int32).toInt = 0 := by decide
      refine wp_if (fun c_2 => ?_) (fun c_2 => ?_)
      ·
        have dc_2 := i_le c_2
        refine wp_of (uf_X9_taken_75 _ _ _ _ _ _) ?_
        refine wp_ifn c_1 ?_
        exact wp_so1 trivial
      ·
        have dc_2 := i_nle c_2
        refine wp_bd1 (sf_X9_above hN ) (fun r_16 ⟨q_4, q_5, q_6⟩ => ?_)
        exact ih _ _ _ _ _ h_0 h_1 h_2 h_3 h_4 h_5 (by omega)

theorem uf_X9_taken (N : Nat) (x1 : Int32) (x2 : Int32) (v_bodyKind : List Int32) (v_shelf : List Int32) : fX9_taken N x1 x2 v_bodyKind v_shelf = mm_bd1 (fX9_isShelf N x1) (fun (r_1 : Bool) =>
    if r_1 = false then
    (some ((-1 : Int32)))
    else (mm_bd1 (fX9_within N ((x2).toInt64) (0 : Int64) (7 : Int64)) (fun (r_4 : Bool) =>
    if r_4 = false then
    (some ((-1 : Int32)))
    else (mm_ck (mm_inb x1 v_shelf.length) (if 0 ≤ (mm_ig v_shelf x1) then
    (mm_ck (mm_inb x1 v_shelf.length) (if (mm_ig v_shelf x1) < (50 : Int32) then
    (mm_ck (mm_inb x1 v_shelf.length) (mm_bd1 (fX9_kindOf N (mm_ig v_shelf x1) v_bodyKind) (fun (r_12 : Int32) =>
    fX9_taken_58 N N x1 x2 r_12 v_bodyKind v_shelf)))
    else (some ((-12 : Int32)))))
    else (some ((-11 : Int32)))))))) := rfl

set_option maxHeartbeats 4000000 in
set_option maxRecDepth 20000 in
theorem sf_X9_taken {N : Nat} (hN : 700 ≤ N) {x1 : Int32} {x2 : Int32} {v_bodyKind : List Int32} {v_shelf : List Int32} (h_0 : v_bodyKind.length = 50) (h_1 : v_shelf.length = 6) : wp (fX9_taken N x1 x2 v_bodyKind v_shelf) (fun (r : Int32) => True) := by
  refine wp_of (uf_X9_taken _ _ _ _ _) ?_
  refine wp_bd1 (sf_X9_isShelf hN ) (fun r_1 q_1 => ?_)
  rcases q_1 with ⟨rfl, q_1⟩ | ⟨rfl, q_1⟩
  ·
    refine wp_ifn (by decide) ?_
    have n_2 := i_64 x2
    have n_3 : (0 : Int64).toInt = 0 := by decide
    have n_4 : (7 : Int64).toInt = 7 := by decide
    refine wp_bd1 (sf_X9_within hN ) (fun r_4 q_5 => ?_)
    rcases q_5 with ⟨rfl, q_5⟩ | ⟨rfl, q_5⟩
    ·
      refine wp_ifn (by decide) ?_
      refine wp_ck (i_inb (by omega) (by omega)) ?_
      have n_7 : (0 : Int32).toInt = 0 := by decide
      refine wp_if (fun c_6 => ?_) (fun c_6 => ?_)
      ·
        have dc_6 := i_le c_6
        refine wp_ck (i_inb (by omega) (by omega)) ?_
        have n_9 : (50 : Int32).toInt = 50 := by decide
        refine wp_if (fun c_8 => ?_) (fun c_8 => ?_)
        ·
          have dc_8 := i_lt c_8
          refine wp_ck (i_inb (by omega) (by omega)) ?_
          refine wp_bd1 (sf_X9_kindOf hN h_0 (by omega) (by omega)) (fun r_12 _ => ?_)
          exact sf_X9_taken_58 hN _ _ _ _ _ _ h_0 h_1 (by omega) (by omega) (by omega) (by omega) (by omega)
        ·
          have dc_8 := i_nlt c_8
          exact wp_so1 trivial
      ·
        have dc_6 := i_nle c_6
        exact wp_so1 trivial
    ·
      refine wp_ifp (by decide) ?_
      exact wp_so1 trivial
  ·
    refine wp_ifp (by decide) ?_
    exact wp_so1 trivial

theorem uf_X9_count (N : Nat) (x1 : Int32) (v_done : Int32) (v_rowsOf : Int32) (v_columnsOf : Int32) (v_tapeMany : Int32) (v_planned : Int32) (v_bodies : Int32) (v_ran : Int32) : fX9_count N x1 v_done v_rowsOf v_columnsOf v_tapeMany v_planned v_bodies v_ran = if x1 = (0 : Int32) then
    (mm_bd1 (fX9_fields N v_rowsOf v_columnsOf) (fun (r_2 : Int32) =>
    some (r_2)))
    else (if x1 = (1 : Int32) then
    (some (v_planned))
    else (if x1 = (2 : Int32) then
    (some (v_tapeMany))
    else (if x1 = (3 : Int32) then
    (some (v_done))
    else (if x1 = (4 : Int32) then
    (some (v_bodies))
    else (if x1 = (5 : Int32) then
    (some (v_ran))
    else (some ((-1 : Int32)))))))) := rfl

set_option maxHeartbeats 4000000 in
set_option maxRecDepth 20000 in
theorem sf_X9_count {N : Nat} (hN : 700 ≤ N) {x1 : Int32} {v_done : Int32} {v_rowsOf : Int32} {v_columnsOf : Int32} {v_tapeMany : Int32} {v_planned : Int32} {v_bodies : Int32} {v_ran : Int32} (h_0 : 0 ≤ v_done.toInt) (h_1 : v_done.toInt ≤ 40) (h_2 : 1 ≤ v_rowsOf.toInt) (h_3 : v_rowsOf.toInt ≤ 4) (h_4 : 1 ≤ v_columnsOf.toInt) (h_5 : v_columnsOf.toInt ≤ 8) (h_6 : 0 ≤ v_tapeMany.toInt) (h_7 : v_tapeMany.toInt ≤ 120) (h_8 : 0 ≤ v_planned.toInt) (h_9 : v_planned.toInt ≤ 12) (h_10 : 0 ≤ v_bodies.toInt) (h_11 : v_bodies.toInt ≤ 50) : wp (fX9_count N x1 v_done v_rowsOf v_columnsOf v_tapeMany v_planned v_bodies v_ran) (fun (r : Int32) => True) := by
  refine wp_of (uf_X9_count _ _ _ _ _ _ _ _ _) ?_
  have n_2 : (0 : Int32).toInt = 0 := by decide
  refine wp_if (fun c_1 => ?_) (fun c_1 => ?_)
  ·
    have dc_1 := i_eq c_1
    refine wp_bd1 (sf_X9_fields hN h_2 h_3 h_4 h_5) (fun r_2 ⟨q_3, q_4, q_5⟩ => ?_)
    exact wp_so1 trivial
  ·
    have dc_1 := i_ne c_1
    have n_7 : (1 : Int32).toInt = 1 := by decide
    refine wp_if (fun c_6 => ?_) (fun c_6 => ?_)
    ·
      have dc_6 := i_eq c_6
      exact wp_so1 trivial
    ·
      have dc_6 := i_ne c_6
      have n_9 : (2 : Int32).toInt = 2 := by decide
      refine wp_if (fun c_8 => ?_) (fun c_8 => ?_)
      ·
        have dc_8 := i_eq c_8
        exact wp_so1 trivial
      ·
        have dc_8 := i_ne c_8
        have n_11 : (3 : Int32).toInt = 3 := by decide
        refine wp_if (fun c_10 => ?_) (fun c_10 => ?_)
        ·
          have dc_10 := i_eq c_10
          exact wp_so1 trivial
        ·
          have dc_10 := i_ne c_10
          have n_13 : (4 : Int32).toInt = 4 := by decide
          refine wp_if (fun c_12 => ?_) (fun c_12 => ?_)
          ·
            have dc_12 := i_eq c_12
            exact wp_so1 trivial
          ·
            have dc_12 := i_ne c_12
            have n_15 : (5 : Int32).toInt = 5 := by decide
            refine wp_if (fun c_14 => ?_) (fun c_14 => ?_)
            ·
              have dc_14 := i_eq c_14
              exact wp_so1 trivial
            ·
              have dc_14 := i_ne c_14
              exact wp_so1 trivial

theorem uf_X9_plans_110 (N : Nat) (k_69 : Int32 → Int32 → Int32 → Int32 → Int32 → Int32 → List Int32 → List Int32 → List Int32 → List Int32 → List Int64 → Option (Int32 × Int32 × List Int32 × List Int32)) (x1 : Int32) (x2 : Int32) (x3 : Int32) (x4 : Int32) (v_planned : Int32) (v_planLine : List Int32) (v_planWay : List Int32) (v_shelf : List Int32) (v_many : List Int32) (v_items : List Int64) : fX9_plans_110 N k_69 x1 x2 x3 x4 v_planned v_planLine v_planWay v_shelf v_many v_items = fX9_plans_111 N k_69 x1 x2 x3 x4 (0 : Int32) v_planned v_planLine v_planWay v_shelf v_many v_items := rfl

theorem uf_X9_plans_111 (N : Nat) (k_69 : Int32 → Int32 → Int32 → Int32 → Int32 → Int32 → List Int32 → List Int32 → List Int32 → List Int32 → List Int64 → Option (Int32 × Int32 × List Int32 × List Int32)) (x1 : Int32) (x2 : Int32) (x3 : Int32) (x4 : Int32) (s0 : Int32) (v_planned : Int32) (v_planLine : List Int32) (v_planWay : List Int32) (v_shelf : List Int32) (v_many : List Int32) (v_items : List Int64) : fX9_plans_111 N k_69 x1 x2 x3 x4 s0 v_planned v_planLine v_planWay v_shelf v_many v_items = mm_nm (((((60 : Int32) * x1) + x2) + ((2 : Int32) * x4))) (fun (y_19 : Int32) =>
    if s0 = 0 then
    (fX9_plans_171 N k_69 x1 x2 x3 x4 y_19 v_planned v_planLine v_planWay v_shelf v_many v_items)
    else (mm_ck (mm_inb y_19 v_items.length) (mm_bd1 (fX9_within N (mm_lg v_items y_19) (1 : Int64) (7 : Int64)) (fun (r_22 : Bool) =>
    if r_22 = false then
    (fX9_plans_171 N k_69 x1 x2 x3 x4 y_19 v_planned v_planLine v_planWay v_shelf v_many v_items)
    else (mm_ck (mm_inb (y_19 + (1 : Int32)) v_items.length) (mm_bd1 (fX9_within N (mm_lg v_items (y_19 + (1 : Int32))) (0 : Int64) (7 : Int64)) (fun (r_26 : Bool) =>
    if r_26 = false then
    (fX9_plans_171 N k_69 x1 x2 x3 x4 y_19 v_planned v_planLine v_planWay v_shelf v_many v_items)
    else (fX9_plans_172 N k_69 x1 x2 x3 x4 y_19 (1 : Int32) v_planned v_planLine v_planWay v_shelf v_many v_items)))))))) := rfl

theorem uf_X9_plans_171 (N : Nat) (k_69 : Int32 → Int32 → Int32 → Int32 → Int32 → Int32 → List Int32 → List Int32 → List Int32 → List Int32 → List Int64 → Option (Int32 × Int32 × List Int32 × List Int32)) (x1 : Int32) (x2 : Int32) (x3 : Int32) (x4 : Int32) (x6 : Int32) (v_planned : Int32) (v_planLine : List Int32) (v_planWay : List Int32) (v_shelf : List Int32) (v_many : List Int32) (v_items : List Int64) : fX9_plans_171 N k_69 x1 x2 x3 x4 x6 v_planned v_planLine v_planWay v_shelf v_many v_items = fX9_plans_172 N k_69 x1 x2 x3 x4 x6 (0 : Int32) v_planned v_planLine v_planWay v_shelf v_many v_items := rfl

theorem uf_X9_plans_172 (N : Nat) (k_69 : Int32 → Int32 → Int32 → Int32 → Int32 → Int32 → List Int32 → List Int32 → List Int32 → List Int32 → List Int64 → Option (Int32 × Int32 × List Int32 × List Int32)) (x1 : Int32) (x2 : Int32) (x3 : Int32) (x4 : Int32) (x6 : Int32) (s0 : Int32) (v_planned : Int32) (v_planLine : List Int32) (v_planWay : List Int32) (v_shelf : List Int32) (v_many : List Int32) (v_items : List Int64) : fX9_plans_172 N k_69 x1 x2 x3 x4 x6 s0 v_planned v_planLine v_planWay v_shelf v_many v_items = if s0 = 0 then
    (fX9_plans_228 N k_69 x1 x2 x3 x4 s0 v_planned v_planLine v_planWay v_shelf v_many v_items)
    else (mm_ck (mm_inb x6 v_items.length) (mm_nm (((mm_lg v_items x6).toInt32)) (fun (y_31 : Int32) =>
    mm_ck (mm_inb v_planned v_planLine.length) (mm_nm (mm_is v_planLine v_planned y_31) (fun (l_33 : List Int32) =>
    mm_ck (mm_inb (x6 + (1 : Int32)) v_items.length) (mm_nm (((mm_lg v_items (x6 + (1 : Int32))).toInt32)) (fun (y_35 : Int32) =>
    mm_ck (mm_inb v_planned v_planWay.length) (mm_nm (mm_is v_planWay v_planned y_35) (fun (l_37 : List Int32) =>
    mm_nm ((v_planned + (1 : Int32))) (fun (y_38 : Int32) =>
    mm_nm (x4 + (1 : Int32)) (fun (y_39 : Int32) =>
    fX9_plans_228 N k_69 x1 x2 x3 y_39 s0 y_38 l_33 l_37 v_shelf v_many v_items))))))))))) := rfl

theorem uf_X9_plans_228 (N : Nat) (k_69 : Int32 → Int32 → Int32 → Int32 → Int32 → Int32 → List Int32 → List Int32 → List Int32 → List Int32 → List Int64 → Option (Int32 × Int32 × List Int32 × List Int32)) (x1 : Int32) (x2 : Int32) (x3 : Int32) (x4 : Int32) (x5 : Int32) (v_planned : Int32) (v_planLine : List Int32) (v_planWay : List Int32) (v_shelf : List Int32) (v_many : List Int32) (v_items : List Int64) : fX9_plans_228 N k_69 x1 x2 x3 x4 x5 v_planned v_planLine v_planWay v_shelf v_many v_items = k_69 x1 x2 x3 x4 x5 v_planned v_planLine v_planWay v_shelf v_many v_items := rfl

theorem uf_X9_plans_69 (N : Nat) (n : Nat) (x1 : Int32) (x2 : Int32) (x3 : Int32) (x4 : Int32) (x5 : Int32) (v_planned : Int32) (v_planLine : List Int32) (v_planWay : List Int32) (v_shelf : List Int32) (v_many : List Int32) (v_items : List Int64) : fX9_plans_69 N (n + 1) x1 x2 x3 x4 x5 v_planned v_planLine v_planWay v_shelf v_many v_items = 
    if x5 = 0 then
    (some (x4, v_planned, v_planLine, v_planWay))
    else (if x3 ≤ x4 then
    (some (x4, v_planned, v_planLine, v_planWay))
    else (mm_ck (mm_inb x1 v_many.length) (if (((mm_ig v_many x1) - (2 : Int32)) - ((2 : Int32) * x4)) < x2 then
    (fX9_plans_110 N (fX9_plans_69 N n) x1 x2 x3 x4 v_planned v_planLine v_planWay v_shelf v_many v_items)
    else (if (12 : Int32) ≤ v_planned then
    (fX9_plans_110 N (fX9_plans_69 N n) x1 x2 x3 x4 v_planned v_planLine v_planWay v_shelf v_many v_items)
    else (fX9_plans_111 N (fX9_plans_69 N n) x1 x2 x3 x4 (1 : Int32) v_planned v_planLine v_planWay v_shelf v_many v_items))))) := rfl

set_option maxHeartbeats 4000000 in
set_option maxRecDepth 20000 in
theorem sf_X9_plans_69 {N : Nat} (hN : 700 ≤ N)  : ∀ (n : Nat) (x1 : Int32) (x2 : Int32) (x3 : Int32) (x4 : Int32) (x5 : Int32) (v_planned : Int32) (v_planLine : List Int32) (v_planWay : List Int32) (v_shelf : List Int32) (v_many : List Int32) (v_items : List Int64), 0 ≤ v_planned.toInt → v_planned.toInt ≤ 12 → v_planLine.length = 12 → v_planWay.length = 12 → v_shelf.length = 6 → v_many.length = 6 → v_items.length = 360 → zn v_many 0 6 0 61 → 0 ≤ x1.toInt → x1.toInt ≤ 5 → 1 ≤ x3.toInt → x3.toInt ≤ 12 → 0 ≤ x4.toInt → x4.toInt ≤ 12 → 0 ≤ x5.toInt → x5.toInt ≤ 1 → (x5.toInt = 1 → 0 ≤ x2.toInt) → (13 - x4.toInt + x5.toInt).toNat < n → wp (fX9_plans_69 N n x1 x2 x3 x4 x5 v_planned v_planLine v_planWay v_shelf v_many v_items) (cu4 (fun (r : Int32) (wv_planned : Int32) (wv_planLine : List Int32) (wv_planWay : List Int32) => 0 ≤ wv_planned.toInt ∧ wv_planned.toInt ≤ 12 ∧ wv_planLine.length = 12 ∧ wv_planWay.length = 12)) := by
  intro n
  induction n with
  | zero =>
    intro x1 x2 x3 x4 x5 v_planned v_planLine v_planWay v_shelf v_many v_items h_0 h_1 h_2 h_3 h_4 h_5 h_6 h_7 h_8 h_9 h_10 h_11 h_12 h_13 h_14 h_15 h_16 hm
    exact absurd hm (by omega)
  | succ n ih =>
    intro x1 x2 x3 x4 x5 v_planned v_planLine v_planWay v_shelf v_many v_items h_0 h_1 h_2 h_3 h_4 h_5 h_6 h_7 h_8 h_9 h_10 h_11 h_12 h_13 h_14 h_15 h_16 hm
    have hx2 : x2.toInt < 2147483648 := Int32.toInt_lt x2
    have hy2 : -2147483648 ≤ x2.toInt := Int32.le_toInt x2
    refine wp_of (uf_X9_plans_69 _ _ _ _ _ _ _ _ _ _ _ _ _) ?_
    have n_2 : (0 : Int32).toInt = 0 := by decide
    refine wp_if (fun c_1 => ?_) (fun c_1 => ?_)
    ·
      have dc_1 := i_eq c_1
      exact wp_so4 ⟨h_0, h_1, h_2, h_3⟩
    ·
      have dc_1 := i_ne c_1
      refine wp_if (fun c_3 => ?_) (fun c_3 => ?_)
      ·
        have dc_3 := i_le c_3
        exact wp_so4 ⟨h_0, h_1, h_2, h_3⟩
      ·
        have dc_3 := i_nle c_3
        refine wp_ck (i_inb (by omega) (by omega)) ?_
        obtain ⟨e_5, e1_5⟩ := zn_get h_7 (i := x1) (by omega) (by omega) (by omega) (by omega)
        have n_6 : (2 : Int32).toInt = 2 := by decide
        generalize hz_z : ((mm_ig v_many x1) - (2 : Int32)) = z
        have e_7 := i_subE hz_z (by omega) (by omega)
        generalize hz_z__8 : ((2 : Int32) * x4) = z__8
        have e_9 := i_mulLE (c := 2) (by decide) hz_z__8 (by omega) (by omega)
        generalize hz_z__10 : (z - z__8) = z__10
        have e_11 := i_subE hz_z__10 (by omega) (by omega)
        refine wp_if (fun c_4 => ?_) (fun c_4 => ?_)
        ·
          have dc_4 := i_lt c_4
          refine wp_of (uf_X9_plans_110 _ _ _ _ _ _ _ _ _ _ _ _) ?_
          refine wp_of (uf_X9_plans_111 _ _ _ _ _ _ _ _ _ _ _ _ _) ?_
          have n_12 : (60 : Int32).toInt = 60 := by decide
          generalize hz_z__13 : ((60 : Int32) * x1) = z__13
          have e_14 := i_mulLE (c := 60) (by decide) hz_z__13 (by omega) (by omega)
          generalize hz_z__15 : (z__13 + x2) = z__15
          first | have e_16 := i_addE hz_z__15 (by omega) (by omega) | obtain ⟨k_16, e_16, e1_16, e2_16⟩ := i_addY hz_z__15
          generalize hz_z__17 : ((2 : Int32) * x4) = z__17
          have e_18 := i_mulLE (c := 2) (by decide) hz_z__17 (by omega) (by omega)
          refine wp_nm (fun y_19 h_y_19 => ?_)
          first | have e_19 := i_addE h_y_19.symm (by omega) (by omega) | obtain ⟨k_19, e_19, e1_19, e2_19⟩ := i_addY h_y_19.symm
          refine wp_ifp (by decide) ?_
          refine wp_of (uf_X9_plans_171 _ _ _ _ _ _ _ _ _ _ _ _ _) ?_
          refine wp_of (uf_X9_plans_172 _ _ _ _ _ _ _ _ _ _ _ _ _ _) ?_
          refine wp_ifp (by decide) ?_
          refine wp_of (uf_X9_plans_228 _ _ _ _ _ _ _ _ _ _ _ _ _) ?_
          exact ih _ _ _ _ _ _ _ _ _ _ _ h_0 h_1 h_2 h_3 h_4 h_5 h_6 h_7 h_8 h_9 h_10 h_11 h_12 h_13 (by omega) (by omega) (by omega) (by omega)
        ·
          have dc_4 := i_nlt c_4
          have n_21 : (12 : Int32).toInt = 12 := by decide
          refine wp_if (fun c_20 => ?_) (fun c_20 => ?_)
          ·
            have dc_20 := i_le c_20
            refine wp_of (uf_X9_plans_110 _ _ _ _ _ _ _ _ _ _ _ _) ?_
            refine wp_of (uf_X9_plans_111 _ _ _ _ _ _ _ _ _ _ _ _ _) ?_
            have n_23 : (60 : Int32).toInt = 60 := by decide
            generalize hz_z__24 : ((60 : Int32) * x1) = z__24
            have e_25 := i_mulLE (c := 60) (by decide) hz_z__24 (by omega) (by omega)
            generalize hz_z__26 : (z__24 + x2) = z__26
            first | have e_27 := i_addE hz_z__26 (by omega) (by omega) | obtain ⟨k_27, e_27, e1_27, e2_27⟩ := i_addY hz_z__26
            generalize hz_z__28 : ((2 : Int32) * x4) = z__28
            have e_29 := i_mulLE (c := 2) (by decide) hz_z__28 (by omega) (by omega)
            refine wp_nm (fun y_19__22 h_y_19__22 => ?_)
            first | have e_30 := i_addE h_y_19__22.symm (by omega) (by omega) | obtain ⟨k_30, e_30, e1_30, e2_30⟩ := i_addY h_y_19__22.symm
            refine wp_ifp (by decide) ?_
            refine wp_of (uf_X9_plans_171 _ _ _ _ _ _ _ _ _ _ _ _ _) ?_
            refine wp_of (uf_X9_plans_172 _ _ _ _ _ _ _ _ _ _ _ _ _ _) ?_
            refine wp_ifp (by decide) ?_
            refine wp_of (uf_X9_plans_228 _ _ _ _ _ _ _ _ _ _ _ _ _) ?_
            exact ih _ _ _ _ _ _ _ _ _ _ _ h_0 h_1 h_2 h_3 h_4 h_5 h_6 h_7 h_8 h_9 h_10 h_11 h_12 h_13 (by omega) (by omega) (by omega) (by omega)
          ·
            have dc_20 := i_nle c_20
            refine wp_of (uf_X9_plans_111 _ _ _ _ _ _ _ _ _ _ _ _ _) ?_
            have n_32 : (60 : Int32).toInt = 60 := by decide
            generalize hz_z__33 : ((60 : Int32) * x1) = z__33
            have e_34 := i_mulLE (c := 60) (by decide) hz_z__33 (by omega) (by omega)
            generalize hz_z__35 : (z__33 + x2) = z__35
            first | have e_36 := i_addE hz_z__35 (by omega) (by omega) | obtain ⟨k_36, e_36, e1_36, e2_36⟩ := i_addY hz_z__35
            generalize hz_z__37 : ((2 : Int32) * x4) = z__37
            have e_38 := i_mulLE (c := 2) (by decide) hz_z__37 (by omega) (by omega)
            refine wp_nm (fun y_19__31 h_y_19__31 => ?_)
            first | have e_39 := i_addE h_y_19__31.symm (by omega) (by omega) | obtain ⟨k_39, e_39, e1_39, e2_39⟩ := i_addY h_y_19__31.symm
            refine wp_ifn (by decide) ?_
            refine wp_ck (i_inb (by omega) (by omega)) ?_
            have n_40 : (1 : Int64).toInt = 1 := by decide
            have n_41 : (7 : Int64).toInt = 7 := by decide
            refine wp_bd1 (sf_X9_within hN ) (fun r_22 q_42 => ?_)
            rcases q_42 with ⟨rfl, q_42⟩ | ⟨rfl, q_42⟩
            ·
              refine wp_ifn (by decide) ?_
              have n_43 : (1 : Int32).toInt = 1 := by decide
              generalize hz_z__44 : (y_19__31 + (1 : Int32)) = z__44
              first | have e_45 := i_addE hz_z__44 (by omega) (by omega) | obtain ⟨k_45, e_45, e1_45, e2_45⟩ := i_addY hz_z__44
              refine wp_ck (i_inb (by omega) (by omega)) ?_
              have n_46 : (0 : Int64).toInt = 0 := by decide
              refine wp_bd1 (sf_X9_within hN ) (fun r_26 q_47 => ?_)
              rcases q_47 with ⟨rfl, q_47⟩ | ⟨rfl, q_47⟩
              ·
                refine wp_ifn (by decide) ?_
                refine wp_of (uf_X9_plans_172 _ _ _ _ _ _ _ _ _ _ _ _ _ _) ?_
                refine wp_ifn (by decide) ?_
                refine wp_ck (i_inb (by omega) (by omega)) ?_
                refine wp_nm (fun y_31 _ => ?_)
                refine wp_ck (i_inb (by omega) (by omega)) ?_
                refine wp_nm (fun l_33 h_l_33 => ?_)
                have nl_l_33 : l_33.length = 12 := by rw [h_l_33, is_len]; assumption
                generalize hz_z__48 : (y_19__31 + (1 : Int32)) = z__48
                first | have e_49 := i_addE hz_z__48 (by omega) (by omega) | obtain ⟨k_49, e_49, e1_49, e2_49⟩ := i_addY hz_z__48
                refine wp_ck (i_inb (by omega) (by omega)) ?_
                refine wp_nm (fun y_35 _ => ?_)
                refine wp_ck (i_inb (by omega) (by omega)) ?_
                refine wp_nm (fun l_37 h_l_37 => ?_)
                have nl_l_37 : l_37.length = 12 := by rw [h_l_37, is_len]; assumption
                refine wp_nm (fun y_38 h_y_38 => ?_)
                have e_50 := i_addE h_y_38.symm (by omega) (by omega)
                refine wp_nm (fun y_39 h_y_39 => ?_)
                have e_51 := i_addE h_y_39.symm (by omega) (by omega)
                refine wp_of (uf_X9_plans_228 _ _ _ _ _ _ _ _ _ _ _ _ _) ?_
                exact ih _ _ _ _ _ _ _ _ _ _ _ (by omega) (by omega) nl_l_33 nl_l_37 h_4 h_5 h_6 h_7 h_8 h_9 h_10 h_11 (by omega) (by omega) (by omega) (by omega) (by omega) (by omega)
              ·
                refine wp_ifp (by decide) ?_
                refine wp_of (uf_X9_plans_171 _ _ _ _ _ _ _ _ _ _ _ _ _) ?_
                refine wp_of (uf_X9_plans_172 _ _ _ _ _ _ _ _ _ _ _ _ _ _) ?_
                refine wp_ifp (by decide) ?_
                refine wp_of (uf_X9_plans_228 _ _ _ _ _ _ _ _ _ _ _ _ _) ?_
                exact ih _ _ _ _ _ _ _ _ _ _ _ h_0 h_1 h_2 h_3 h_4 h_5 h_6 h_7 h_8 h_9 h_10 h_11 h_12 h_13 (by omega) (by omega) (by omega) (by omega)
            ·
              refine wp_ifp (by decide) ?_
              refine wp_of (uf_X9_plans_171 _ _ _ _ _ _ _ _ _ _ _ _ _) ?_
              refine wp_of (uf_X9_plans_172 _ _ _ _ _ _ _ _ _ _ _ _ _ _) ?_
              refine wp_ifp (by decide) ?_
              refine wp_of (uf_X9_plans_228 _ _ _ _ _ _ _ _ _ _ _ _ _) ?_
              exact ih _ _ _ _ _ _ _ _ _ _ _ h_0 h_1 h_2 h_3 h_4 h_5 h_6 h_7 h_8 h_9 h_10 h_11 h_12 h_13 (by omega) (by omega) (by omega) (by omega)

theorem uf_X9_plans (N : Nat) (x1 : Int32) (x2 : Int32) (x3 : Int32) (v_planned : Int32) (v_planLine : List Int32) (v_planWay : List Int32) (v_shelf : List Int32) (v_many : List Int32) (v_items : List Int64) : fX9_plans N x1 x2 x3 v_planned v_planLine v_planWay v_shelf v_many v_items = mm_bd1 (fX9_isShelf N x1) (fun (r_1 : Bool) =>
    if r_1 = false then
    (some ((-1 : Int32), v_planned, v_planLine, v_planWay))
    else (mm_bd1 (fX9_within N ((x3).toInt64) (1 : Int64) (12 : Int64)) (fun (r_4 : Bool) =>
    if r_4 = false then
    (some ((-1 : Int32), v_planned, v_planLine, v_planWay))
    else (mm_ck (mm_inb x1 v_shelf.length) (if (mm_ig v_shelf x1) < 0 then
    (fX9_plans_44 N x1 x2 x3 v_planned v_planLine v_planWay v_shelf v_many v_items)
    else (mm_ck (mm_inb x1 v_shelf.length) (if (mm_ig v_shelf x1) = (50 : Int32) then
    (fX9_plans_44 N x1 x2 x3 v_planned v_planLine v_planWay v_shelf v_many v_items)
    else (some ((-12 : Int32), v_planned, v_planLine, v_planWay))))))))) := rfl

theorem uf_X9_plans_44 (N : Nat) (x1 : Int32) (x2 : Int32) (x3 : Int32) (v_planned : Int32) (v_planLine : List Int32) (v_planWay : List Int32) (v_shelf : List Int32) (v_many : List Int32) (v_items : List Int64) : fX9_plans_44 N x1 x2 x3 v_planned v_planLine v_planWay v_shelf v_many v_items = mm_ck (mm_inb x1 v_shelf.length) (if (mm_ig v_shelf x1) = (50 : Int32) then
    (if x2 < 0 then
    (fX9_plans_66 N x1 x2 x3 (0 : Int32) v_planned v_planLine v_planWay v_shelf v_many v_items)
    else (fX9_plans_67 N x1 x2 x3 (0 : Int32) (1 : Int32) v_planned v_planLine v_planWay v_shelf v_many v_items))
    else (fX9_plans_66 N x1 x2 x3 (0 : Int32) v_planned v_planLine v_planWay v_shelf v_many v_items)) := rfl

theorem uf_X9_plans_66 (N : Nat) (x1 : Int32) (x2 : Int32) (x3 : Int32) (x4 : Int32) (v_planned : Int32) (v_planLine : List Int32) (v_planWay : List Int32) (v_shelf : List Int32) (v_many : List Int32) (v_items : List Int64) : fX9_plans_66 N x1 x2 x3 x4 v_planned v_planLine v_planWay v_shelf v_many v_items = fX9_plans_67 N x1 x2 x3 x4 (0 : Int32) v_planned v_planLine v_planWay v_shelf v_many v_items := rfl

theorem uf_X9_plans_67 (N : Nat) (x1 : Int32) (x2 : Int32) (x3 : Int32) (x4 : Int32) (s0 : Int32) (v_planned : Int32) (v_planLine : List Int32) (v_planWay : List Int32) (v_shelf : List Int32) (v_many : List Int32) (v_items : List Int64) : fX9_plans_67 N x1 x2 x3 x4 s0 v_planned v_planLine v_planWay v_shelf v_many v_items = fX9_plans_69 N N x1 x2 x3 x4 s0 v_planned v_planLine v_planWay v_shelf v_many v_items := rfl

set_option maxHeartbeats 4000000 in
set_option maxRecDepth 20000 in
theorem sf_X9_plans {N : Nat} (hN : 700 ≤ N) {x1 : Int32} {x2 : Int32} {x3 : Int32} {v_planned : Int32} {v_planLine : List Int32} {v_planWay : List Int32} {v_shelf : List Int32} {v_many : List Int32} {v_items : List Int64} (h_0 : 0 ≤ v_planned.toInt) (h_1 : v_planned.toInt ≤ 12) (h_2 : v_planLine.length = 12) (h_3 : v_planWay.length = 12) (h_4 : v_shelf.length = 6) (h_5 : v_many.length = 6) (h_6 : v_items.length = 360) (h_7 : zn v_many 0 6 0 61) : wp (fX9_plans N x1 x2 x3 v_planned v_planLine v_planWay v_shelf v_many v_items) (cu4 (fun (r : Int32) (wv_planned : Int32) (wv_planLine : List Int32) (wv_planWay : List Int32) => 0 ≤ wv_planned.toInt ∧ wv_planned.toInt ≤ 12 ∧ wv_planLine.length = 12 ∧ wv_planWay.length = 12)) := by
  refine wp_of (uf_X9_plans _ _ _ _ _ _ _ _ _ _) ?_
  refine wp_bd1 (sf_X9_isShelf hN ) (fun r_1 q_1 => ?_)
  rcases q_1 with ⟨rfl, q_1⟩ | ⟨rfl, q_1⟩
  ·
    refine wp_ifn (by decide) ?_
    have n_2 := i_64 x3
    have n_3 : (1 : Int64).toInt = 1 := by decide
    have n_4 : (12 : Int64).toInt = 12 := by decide
    refine wp_bd1 (sf_X9_within hN ) (fun r_4 q_5 => ?_)
    rcases q_5 with ⟨rfl, q_5⟩ | ⟨rfl, q_5⟩
    ·
      refine wp_ifn (by decide) ?_
      refine wp_ck (i_inb (by omega) (by omega)) ?_
      have n_7 : (0 : Int32).toInt = 0 := by decide
      refine wp_if (fun c_6 => ?_) (fun c_6 => ?_)
      ·
        have dc_6 := i_lt c_6
        refine wp_of (uf_X9_plans_44 _ _ _ _ _ _ _ _ _ _) ?_
        refine wp_ck (i_inb (by omega) (by omega)) ?_
        have n_9 : (50 : Int32).toInt = 50 := by decide
        refine wp_if (fun c_8 => ?_) (fun c_8 => ?_)
        ·
          have dc_8 := i_eq c_8
          refine wp_if (fun c_10 => ?_) (fun c_10 => ?_)
          ·
            have dc_10 := i_lt c_10
            refine wp_of (uf_X9_plans_66 _ _ _ _ _ _ _ _ _ _ _) ?_
            refine wp_of (uf_X9_plans_67 _ _ _ _ _ _ _ _ _ _ _ _) ?_
            exact sf_X9_plans_69 hN _ _ _ _ _ _ _ _ _ _ _ _ h_0 h_1 h_2 h_3 h_4 h_5 h_6 h_7 (by omega) (by omega) (by omega) (by omega) (by omega) (by omega) (by omega) (by omega) (by omega) (by omega)
          ·
            have dc_10 := i_nlt c_10
            refine wp_of (uf_X9_plans_67 _ _ _ _ _ _ _ _ _ _ _ _) ?_
            have n_11 : (1 : Int32).toInt = 1 := by decide
            exact sf_X9_plans_69 hN _ _ _ _ _ _ _ _ _ _ _ _ h_0 h_1 h_2 h_3 h_4 h_5 h_6 h_7 (by omega) (by omega) (by omega) (by omega) (by omega) (by omega) (by omega) (by omega) (by omega) (by omega)
        ·
          have dc_8 := i_ne c_8
          refine wp_of (uf_X9_plans_66 _ _ _ _ _ _ _ _ _ _ _) ?_
          refine wp_of (uf_X9_plans_67 _ _ _ _ _ _ _ _ _ _ _ _) ?_
          exact sf_X9_plans_69 hN _ _ _ _ _ _ _ _ _ _ _ _ h_0 h_1 h_2 h_3 h_4 h_5 h_6 h_7 (by omega) (by omega) (by omega) (by omega) (by omega) (by omega) (by omega) (by omega) (by omega) (by omega)
      ·
        have dc_6 := i_nlt c_6
        refine wp_ck (i_inb (by omega) (by omega)) ?_
        have n_13 : (50 : Int32).toInt = 50 := by decide
        refine wp_if (fun c_12 => ?_) (fun c_12 => ?_)
        ·
          have dc_12 := i_eq c_12
          refine wp_of (uf_X9_plans_44 _ _ _ _ _ _ _ _ _ _) ?_
          refine wp_ck (i_inb (by omega) (by omega)) ?_
          refine wp_ifp c_12 ?_
          refine wp_if (fun c_14 => ?_) (fun c_14 => ?_)
          ·
            have dc_14 := i_lt c_14
            refine wp_of (uf_X9_plans_66 _ _ _ _ _ _ _ _ _ _ _) ?_
            refine wp_of (uf_X9_plans_67 _ _ _ _ _ _ _ _ _ _ _ _) ?_
            exact sf_X9_plans_69 hN _ _ _ _ _ _ _ _ _ _ _ _ h_0 h_1 h_2 h_3 h_4 h_5 h_6 h_7 (by omega) (by omega) (by omega) (by omega) (by omega) (by omega) (by omega) (by omega) (by omega) (by omega)
          ·
            have dc_14 := i_nlt c_14
            refine wp_of (uf_X9_plans_67 _ _ _ _ _ _ _ _ _ _ _ _) ?_
            have n_15 : (1 : Int32).toInt = 1 := by decide
            exact sf_X9_plans_69 hN _ _ _ _ _ _ _ _ _ _ _ _ h_0 h_1 h_2 h_3 h_4 h_5 h_6 h_7 (by omega) (by omega) (by omega) (by omega) (by omega) (by omega) (by omega) (by omega) (by omega) (by omega)
        ·
          have dc_12 := i_ne c_12
          exact wp_so4 ⟨h_0, h_1, h_2, h_3⟩
    ·
      refine wp_ifp (by decide) ?_
      exact wp_so4 ⟨h_0, h_1, h_2, h_3⟩
  ·
    refine wp_ifp (by decide) ?_
    exact wp_so4 ⟨h_0, h_1, h_2, h_3⟩
end
