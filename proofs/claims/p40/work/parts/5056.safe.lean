/-! safe -/
theorem uf_X9_movesAll (N : Nat) (x1 : Int32) (x2 : Int32) (x3 : Int32) (v_rowsOf : Int32) (v_columnsOf : Int32) (v_shapeRows : List Int32) (v_shapeColumns : List Int32) (v_row : List Int32) (v_column : List Int32) (v_below : List Int32) (v_face : List Int32) (v_high : List Int32) (v_to : List Int32) (v_pileSize : List Int32) : fX9_movesAll N x1 x2 x3 v_rowsOf v_columnsOf v_shapeRows v_shapeColumns v_row v_column v_below v_face v_high v_to v_pileSize = if (4 : Int32) ≤ x3 then
    (fX9_movesAll_10 N x1 x2 x3 (0 : Int32) v_rowsOf v_columnsOf v_shapeRows v_shapeColumns v_row v_column v_below v_face v_high v_to v_pileSize)
    else (fX9_movesAll_10 N x1 x2 x3 (1 : Int32) v_rowsOf v_columnsOf v_shapeRows v_shapeColumns v_row v_column v_below v_face v_high v_to v_pileSize) := rfl

theorem uf_X9_movesAll_10 (N : Nat) (x1 : Int32) (x2 : Int32) (x3 : Int32) (s0 : Int32) (v_rowsOf : Int32) (v_columnsOf : Int32) (v_shapeRows : List Int32) (v_shapeColumns : List Int32) (v_row : List Int32) (v_column : List Int32) (v_below : List Int32) (v_face : List Int32) (v_high : List Int32) (v_to : List Int32) (v_pileSize : List Int32) : fX9_movesAll_10 N x1 x2 x3 s0 v_rowsOf v_columnsOf v_shapeRows v_shapeColumns v_row v_column v_below v_face v_high v_to v_pileSize = mm_ck (mm_nz (4 : Int32)) (if (2 : Int32) ≤ (mm_rem x3 (4 : Int32)) then
    (fX9_movesAll_24 N x1 x2 x3 s0 (0 : Int32) v_rowsOf v_columnsOf v_shapeRows v_shapeColumns v_row v_column v_below v_face v_high v_to v_pileSize)
    else (fX9_movesAll_24 N x1 x2 x3 s0 (1 : Int32) v_rowsOf v_columnsOf v_shapeRows v_shapeColumns v_row v_column v_below v_face v_high v_to v_pileSize)) := rfl

theorem uf_X9_movesAll_24 (N : Nat) (x1 : Int32) (x2 : Int32) (x3 : Int32) (x4 : Int32) (s0 : Int32) (v_rowsOf : Int32) (v_columnsOf : Int32) (v_shapeRows : List Int32) (v_shapeColumns : List Int32) (v_row : List Int32) (v_column : List Int32) (v_below : List Int32) (v_face : List Int32) (v_high : List Int32) (v_to : List Int32) (v_pileSize : List Int32) : fX9_movesAll_24 N x1 x2 x3 x4 s0 v_rowsOf v_columnsOf v_shapeRows v_shapeColumns v_row v_column v_below v_face v_high v_to v_pileSize = mm_ck (mm_nz (2 : Int32)) (if (mm_rem x3 (2 : Int32)) = 0 then
    (fX9_movesAll_37 N x1 x2 x4 s0 (1 : Int32) v_rowsOf v_columnsOf v_shapeRows v_shapeColumns v_row v_column v_below v_face v_high v_to v_pileSize)
    else (fX9_movesAll_37 N x1 x2 x4 s0 (0 : Int32) v_rowsOf v_columnsOf v_shapeRows v_shapeColumns v_row v_column v_below v_face v_high v_to v_pileSize)) := rfl

theorem uf_X9_movesAll_37 (N : Nat) (x1 : Int32) (x2 : Int32) (x4 : Int32) (x5 : Int32) (s0 : Int32) (v_rowsOf : Int32) (v_columnsOf : Int32) (v_shapeRows : List Int32) (v_shapeColumns : List Int32) (v_row : List Int32) (v_column : List Int32) (v_below : List Int32) (v_face : List Int32) (v_high : List Int32) (v_to : List Int32) (v_pileSize : List Int32) : fX9_movesAll_37 N x1 x2 x4 x5 s0 v_rowsOf v_columnsOf v_shapeRows v_shapeColumns v_row v_column v_below v_face v_high v_to v_pileSize = if x4 = 0 then
    (mm_ck (mm_inb x1 v_shapeRows.length) (fX9_movesAll_59 N x1 x2 x4 x5 s0 (mm_ig v_shapeRows x1) v_rowsOf v_columnsOf v_shapeRows v_shapeColumns v_row v_column v_below v_face v_high v_to v_pileSize))
    else (mm_ck (mm_inb x1 v_shapeColumns.length) (fX9_movesAll_59 N x1 x2 x4 x5 s0 (mm_ig v_shapeColumns x1) v_rowsOf v_columnsOf v_shapeRows v_shapeColumns v_row v_column v_below v_face v_high v_to v_pileSize)) := rfl

theorem uf_X9_movesAll_59 (N : Nat) (x1 : Int32) (x2 : Int32) (x4 : Int32) (x5 : Int32) (x6 : Int32) (s0 : Int32) (v_rowsOf : Int32) (v_columnsOf : Int32) (v_shapeRows : List Int32) (v_shapeColumns : List Int32) (v_row : List Int32) (v_column : List Int32) (v_below : List Int32) (v_face : List Int32) (v_high : List Int32) (v_to : List Int32) (v_pileSize : List Int32) : fX9_movesAll_59 N x1 x2 x4 x5 x6 s0 v_rowsOf v_columnsOf v_shapeRows v_shapeColumns v_row v_column v_below v_face v_high v_to v_pileSize = if x5 = 0 then
    (if 0 ≤ (((2 : Int32) * x2) - s0) then
    (fX9_movesAll_89 N x1 x2 x4 x5 x6 s0 (0 : Int32) v_rowsOf v_columnsOf v_shapeRows v_shapeColumns v_row v_column v_below v_face v_high v_to v_pileSize)
    else (fX9_movesAll_89 N x1 x2 x4 x5 x6 s0 (((2 : Int32) * x2) - s0) v_rowsOf v_columnsOf v_shapeRows v_shapeColumns v_row v_column v_below v_face v_high v_to v_pileSize))
    else (fX9_movesAll_89 N x1 x2 x4 x5 x6 s0 x2 v_rowsOf v_columnsOf v_shapeRows v_shapeColumns v_row v_column v_below v_face v_high v_to v_pileSize) := rfl

theorem uf_X9_movesAll_89 (N : Nat) (x1 : Int32) (x2 : Int32) (x4 : Int32) (x5 : Int32) (x6 : Int32) (x7 : Int32) (s0 : Int32) (v_rowsOf : Int32) (v_columnsOf : Int32) (v_shapeRows : List Int32) (v_shapeColumns : List Int32) (v_row : List Int32) (v_column : List Int32) (v_below : List Int32) (v_face : List Int32) (v_high : List Int32) (v_to : List Int32) (v_pileSize : List Int32) : fX9_movesAll_89 N x1 x2 x4 x5 x6 x7 s0 v_rowsOf v_columnsOf v_shapeRows v_shapeColumns v_row v_column v_below v_face v_high v_to v_pileSize = fX9_movesAll_94 N N x1 x2 x4 x5 x6 x7 s0 (0 : Int32) v_rowsOf v_columnsOf v_shapeRows v_shapeColumns v_row v_column v_below v_face v_high v_to v_pileSize := rfl

set_option maxHeartbeats 4000000 in
set_option maxRecDepth 20000 in
theorem sf_X9_movesAll {N : Nat} (hN : 700 ≤ N) {u_row : List Int32} {u_col : List Int32} {u_sR : List Int32} {u_sC : List Int32} {A : Int} {B9 : Int} {a9 : Int} {b9 : Int} {x1 : Int32} {x2 : Int32} {x3 : Int32} {v_rowsOf : Int32} {v_columnsOf : Int32} {v_shapeRows : List Int32} {v_shapeColumns : List Int32} {v_row : List Int32} {v_column : List Int32} {v_below : List Int32} {v_face : List Int32} {v_high : List Int32} {v_to : List Int32} {v_pileSize : List Int32} (h_0 : 1 ≤ v_rowsOf.toInt) (h_1 : v_rowsOf.toInt ≤ 4) (h_2 : 1 ≤ v_columnsOf.toInt) (h_3 : v_columnsOf.toInt ≤ 8) (h_4 : v_shapeRows.length = 6) (h_5 : v_shapeColumns.length = 6) (h_6 : v_row.length = 192) (h_7 : v_column.length = 192) (h_8 : v_below.length = 192) (h_9 : v_face.length = 192) (h_10 : v_high.length = 32) (h_11 : v_to.length = 32) (h_12 : v_pileSize.length = 64) (h_13 : 0 ≤ x1.toInt) (h_14 : x1.toInt ≤ 5) (h_15 : fr u_row v_row A B9) (h_16 : fr u_col v_column A B9) (h_17 : fr u_sR v_shapeRows a9 b9) (h_18 : fr u_sC v_shapeColumns a9 b9) (h_19 : A ≤ 32 * x1.toInt) (h_20 : 32 * x1.toInt + 32 ≤ B9) (h_21 : a9 ≤ x1.toInt) (h_22 : x1.toInt < b9) (h_23 : 1 ≤ x2.toInt) (h_24 : (x3.toInt < 4 → x2.toInt < (mm_ig v_shapeColumns x1).toInt)) (h_25 : (4 ≤ x3.toInt → x2.toInt < (mm_ig v_shapeRows x1).toInt)) (h_26 : lv9 v_rowsOf v_columnsOf v_shapeRows v_shapeColumns v_row v_column x1) : wp (fX9_movesAll N x1 x2 x3 v_rowsOf v_columnsOf v_shapeRows v_shapeColumns v_row v_column v_below v_face v_high v_to v_pileSize) (cu9 (fun (wv_shapeRows : List Int32) (wv_shapeColumns : List Int32) (wv_row : List Int32) (wv_column : List Int32) (wv_below : List Int32) (wv_face : List Int32) (wv_high : List Int32) (wv_to : List Int32) (wv_pileSize : List Int32) => wv_shapeRows.length = 6 ∧ wv_shapeColumns.length = 6 ∧ wv_row.length = 192 ∧ wv_column.length = 192 ∧ wv_below.length = 192 ∧ wv_face.length = 192 ∧ wv_high.length = 32 ∧ wv_to.length = 32 ∧ wv_pileSize.length = 64 ∧ fr u_row wv_row A B9 ∧ fr u_col wv_column A B9 ∧ fr u_sR wv_shapeRows a9 b9 ∧ fr u_sC wv_shapeColumns a9 b9 ∧ lv9 v_rowsOf v_columnsOf wv_shapeRows wv_shapeColumns wv_row wv_column x1)) := by
  have m3 := (i_fl (a := v_rowsOf) (b := v_columnsOf) (by omega) (by omega) (by omega) (by omega)).2
  obtain ⟨l1, l2, l3, l4, l5, l6⟩ := id (show lv9 v_rowsOf v_columnsOf v_shapeRows v_shapeColumns v_row v_column x1 by assumption)
  refine wp_of (uf_X9_movesAll _ _ _ _ _ _ _ _ _ _ _ _ _ _ _) ?_
  have n_2 : (4 : Int32).toInt = 4 := by decide
  refine wp_if (fun c_1 => ?_) (fun c_1 => ?_)
  ·
    have dc_1 := i_le c_1
    refine wp_of (uf_X9_movesAll_10 _ _ _ _ _ _ _ _ _ _ _ _ _ _ _ _) ?_
    refine wp_ck (i_nz (by omega)) ?_
    have n_4 : (2 : Int32).toInt = 2 := by decide
    generalize hz_z : (mm_rem x3 (4 : Int32)) = z
    have e_5 := i_remL (c := 4) (by decide) (by decide) hz_z
    refine wp_if (fun c_3 => ?_) (fun c_3 => ?_)
    ·
      have dc_3 := i_le c_3
      refine wp_of (uf_X9_movesAll_24 _ _ _ _ _ _ _ _ _ _ _ _ _ _ _ _ _) ?_
      refine wp_ck (i_nz (by omega)) ?_
      generalize hz_z__7 : (mm_rem x3 (2 : Int32)) = z__7
      have e_8 := i_remL (c := 2) (by decide) (by decide) hz_z__7
      have n_9 : (0 : Int32).toInt = 0 := by decide
      refine wp_if (fun c_6 => ?_) (fun c_6 => ?_)
      ·
        have dc_6 := i_eq c_6
        refine wp_of (uf_X9_movesAll_37 _ _ _ _ _ _ _ _ _ _ _ _ _ _ _ _ _) ?_
        refine wp_ifp (by decide) ?_
        refine wp_ck (i_inb (by omega) (by omega)) ?_
        refine wp_of (uf_X9_movesAll_59 _ _ _ _ _ _ _ _ _ _ _ _ _ _ _ _ _ _) ?_
        refine wp_ifp (by decide) ?_
        generalize hz_z__11 : ((2 : Int32) * x2) = z__11
        first | have e_12 := i_mulLE (c := 2) (by decide) hz_z__11 (by omega) (by omega) | obtain ⟨k_12, e_12, e1_12, e2_12⟩ := i_mulL (c := 2) (by decide) hz_z__11
        generalize hz_z__13 : (z__11 - (mm_ig v_shapeRows x1)) = z__13
        first | have e_14 := i_subE hz_z__13 (by omega) (by omega) | obtain ⟨k_14, e_14, e1_14, e2_14⟩ := i_subY hz_z__13
        refine wp_if (fun c_10 => ?_) (fun c_10 => ?_)
        ·
          have dc_10 := i_le c_10
          refine wp_of (uf_X9_movesAll_89 _ _ _ _ _ _ _ _ _ _ _ _ _ _ _ _ _ _ _) ?_
          exact sf_X9_movesAll_94_re (u_row := u_row) (u_col := u_col) (u_sR := u_sR) (u_sC := u_sC) (A := A) (B9 := B9) (a9 := a9) (b9 := b9) hN _ _ _ _ _ _ _ _ _ _ _ _ _ _ _ _ _ _ _ _ h_0 h_1 h_2 h_3 h_4 h_5 h_6 h_7 h_8 h_9 h_10 h_11 h_12 h_13 h_14 (by first | assumption | omega | decide) h_23 (by omega) (by omega) (by first | assumption | omega | decide) (by omega) (by omega) h_15 h_16 h_17 h_18 h_19 h_20 h_21 h_22 h_26 (by omega) (by omega) (by omega)
        ·
          have dc_10 := i_nle c_10
          refine wp_of (uf_X9_movesAll_89 _ _ _ _ _ _ _ _ _ _ _ _ _ _ _ _ _ _ _) ?_
          exact sf_X9_movesAll_94_re (u_row := u_row) (u_col := u_col) (u_sR := u_sR) (u_sC := u_sC) (A := A) (B9 := B9) (a9 := a9) (b9 := b9) hN _ _ _ _ _ _ _ _ _ _ _ _ _ _ _ _ _ _ _ _ h_0 h_1 h_2 h_3 h_4 h_5 h_6 h_7 h_8 h_9 h_10 h_11 h_12 h_13 h_14 (by first | assumption | omega | decide) h_23 (by omega) (by omega) (by first | assumption | omega | decide) (by omega) (by omega) h_15 h_16 h_17 h_18 h_19 h_20 h_21 h_22 h_26 (by omega) (by omega) (by omega)
      ·
        have dc_6 := i_ne c_6
        refine wp_of (uf_X9_movesAll_37 _ _ _ _ _ _ _ _ _ _ _ _ _ _ _ _ _) ?_
        refine wp_ifp (by decide) ?_
        refine wp_ck (i_inb (by omega) (by omega)) ?_
        refine wp_of (uf_X9_movesAll_59 _ _ _ _ _ _ _ _ _ _ _ _ _ _ _ _ _ _) ?_
        refine wp_ifp (by decide) ?_
        generalize hz_z__16 : ((2 : Int32) * x2) = z__16
        first | have e_17 := i_mulLE (c := 2) (by decide) hz_z__16 (by omega) (by omega) | obtain ⟨k_17, e_17, e1_17, e2_17⟩ := i_mulL (c := 2) (by decide) hz_z__16
        generalize hz_z__18 : (z__16 - (mm_ig v_shapeRows x1)) = z__18
        first | have e_19 := i_subE hz_z__18 (by omega) (by omega) | obtain ⟨k_19, e_19, e1_19, e2_19⟩ := i_subY hz_z__18
        refine wp_if (fun c_15 => ?_) (fun c_15 => ?_)
        ·
          have dc_15 := i_le c_15
          refine wp_of (uf_X9_movesAll_89 _ _ _ _ _ _ _ _ _ _ _ _ _ _ _ _ _ _ _) ?_
          exact sf_X9_movesAll_94_re (u_row := u_row) (u_col := u_col) (u_sR := u_sR) (u_sC := u_sC) (A := A) (B9 := B9) (a9 := a9) (b9 := b9) hN _ _ _ _ _ _ _ _ _ _ _ _ _ _ _ _ _ _ _ _ h_0 h_1 h_2 h_3 h_4 h_5 h_6 h_7 h_8 h_9 h_10 h_11 h_12 h_13 h_14 (by first | assumption | omega | decide) h_23 (by omega) (by omega) (by first | assumption | omega | decide) (by omega) (by omega) h_15 h_16 h_17 h_18 h_19 h_20 h_21 h_22 h_26 (by omega) (by omega) (by omega)
        ·
          have dc_15 := i_nle c_15
          refine wp_of (uf_X9_movesAll_89 _ _ _ _ _ _ _ _ _ _ _ _ _ _ _ _ _ _ _) ?_
          exact sf_X9_movesAll_94_re (u_row := u_row) (u_col := u_col) (u_sR := u_sR) (u_sC := u_sC) (A := A) (B9 := B9) (a9 := a9) (b9 := b9) hN _ _ _ _ _ _ _ _ _ _ _ _ _ _ _ _ _ _ _ _ h_0 h_1 h_2 h_3 h_4 h_5 h_6 h_7 h_8 h_9 h_10 h_11 h_12 h_13 h_14 (by first | assumption | omega | decide) h_23 (by omega) (by omega) (by first | assumption | omega | decide) (by omega) (by omega) h_15 h_16 h_17 h_18 h_19 h_20 h_21 h_22 h_26 (by omega) (by omega) (by omega)
    ·
      have dc_3 := i_nle c_3
      refine wp_of (uf_X9_movesAll_24 _ _ _ _ _ _ _ _ _ _ _ _ _ _ _ _ _) ?_
      refine wp_ck (i_nz (by omega)) ?_
      generalize hz_z__21 : (mm_rem x3 (2 : Int32)) = z__21
      have e_22 := i_remL (c := 2) (by decide) (by decide) hz_z__21
      have n_23 : (0 : Int32).toInt = 0 := by decide
      refine wp_if (fun c_20 => ?_) (fun c_20 => ?_)
      ·
        have dc_20 := i_eq c_20
        refine wp_of (uf_X9_movesAll_37 _ _ _ _ _ _ _ _ _ _ _ _ _ _ _ _ _) ?_
        refine wp_ifp (by decide) ?_
        refine wp_ck (i_inb (by omega) (by omega)) ?_
        refine wp_of (uf_X9_movesAll_59 _ _ _ _ _ _ _ _ _ _ _ _ _ _ _ _ _ _) ?_
        refine wp_ifn (by decide) ?_
        refine wp_of (uf_X9_movesAll_89 _ _ _ _ _ _ _ _ _ _ _ _ _ _ _ _ _ _ _) ?_
        have n_24 : (1 : Int32).toInt = 1 := by decide
        exact sf_X9_movesAll_94_rs (u_row := u_row) (u_col := u_col) (u_sR := u_sR) (u_sC := u_sC) (A := A) (B9 := B9) (a9 := a9) (b9 := b9) hN _ _ _ _ _ _ _ _ _ _ _ _ _ _ _ _ _ _ _ _ h_0 h_1 h_2 h_3 h_4 h_5 h_6 h_7 h_8 h_9 h_10 h_11 h_12 h_13 h_14 (by first | assumption | omega | decide) h_23 (by omega) (by omega) (by first | assumption | omega | decide) (by omega) (by omega) h_15 h_16 h_17 h_18 h_19 h_20 h_21 h_22 h_26 (by omega) (by omega) (by omega)
      ·
        have dc_20 := i_ne c_20
        refine wp_of (uf_X9_movesAll_37 _ _ _ _ _ _ _ _ _ _ _ _ _ _ _ _ _) ?_
        refine wp_ifp (by decide) ?_
        refine wp_ck (i_inb (by omega) (by omega)) ?_
        refine wp_of (uf_X9_movesAll_59 _ _ _ _ _ _ _ _ _ _ _ _ _ _ _ _ _ _) ?_
        refine wp_ifn (by decide) ?_
        refine wp_of (uf_X9_movesAll_89 _ _ _ _ _ _ _ _ _ _ _ _ _ _ _ _ _ _ _) ?_
        have n_25 : (1 : Int32).toInt = 1 := by decide
        exact sf_X9_movesAll_94_rs (u_row := u_row) (u_col := u_col) (u_sR := u_sR) (u_sC := u_sC) (A := A) (B9 := B9) (a9 := a9) (b9 := b9) hN _ _ _ _ _ _ _ _ _ _ _ _ _ _ _ _ _ _ _ _ h_0 h_1 h_2 h_3 h_4 h_5 h_6 h_7 h_8 h_9 h_10 h_11 h_12 h_13 h_14 (by first | assumption | omega | decide) h_23 (by omega) (by omega) (by first | assumption | omega | decide) (by omega) (by omega) h_15 h_16 h_17 h_18 h_19 h_20 h_21 h_22 h_26 (by omega) (by omega) (by omega)
  ·
    have dc_1 := i_nle c_1
    refine wp_of (uf_X9_movesAll_10 _ _ _ _ _ _ _ _ _ _ _ _ _ _ _ _) ?_
    refine wp_ck (i_nz (by omega)) ?_
    have n_27 : (2 : Int32).toInt = 2 := by decide
    generalize hz_z__28 : (mm_rem x3 (4 : Int32)) = z__28
    have e_29 := i_remL (c := 4) (by decide) (by decide) hz_z__28
    refine wp_if (fun c_26 => ?_) (fun c_26 => ?_)
    ·
      have dc_26 := i_le c_26
      refine wp_of (uf_X9_movesAll_24 _ _ _ _ _ _ _ _ _ _ _ _ _ _ _ _ _) ?_
      refine wp_ck (i_nz (by omega)) ?_
      generalize hz_z__31 : (mm_rem x3 (2 : Int32)) = z__31
      have e_32 := i_remL (c := 2) (by decide) (by decide) hz_z__31
      have n_33 : (0 : Int32).toInt = 0 := by decide
      refine wp_if (fun c_30 => ?_) (fun c_30 => ?_)
      ·
        have dc_30 := i_eq c_30
        refine wp_of (uf_X9_movesAll_37 _ _ _ _ _ _ _ _ _ _ _ _ _ _ _ _ _) ?_
        refine wp_ifn (by decide) ?_
        refine wp_ck (i_inb (by omega) (by omega)) ?_
        refine wp_of (uf_X9_movesAll_59 _ _ _ _ _ _ _ _ _ _ _ _ _ _ _ _ _ _) ?_
        refine wp_ifp (by decide) ?_
        generalize hz_z__35 : ((2 : Int32) * x2) = z__35
        first | have e_36 := i_mulLE (c := 2) (by decide) hz_z__35 (by omega) (by omega) | obtain ⟨k_36, e_36, e1_36, e2_36⟩ := i_mulL (c := 2) (by decide) hz_z__35
        generalize hz_z__37 : (z__35 - (mm_ig v_shapeColumns x1)) = z__37
        first | have e_38 := i_subE hz_z__37 (by omega) (by omega) | obtain ⟨k_38, e_38, e1_38, e2_38⟩ := i_subY hz_z__37
        refine wp_if (fun c_34 => ?_) (fun c_34 => ?_)
        ·
          have dc_34 := i_le c_34
          refine wp_of (uf_X9_movesAll_89 _ _ _ _ _ _ _ _ _ _ _ _ _ _ _ _ _ _ _) ?_
          have n_39 : (1 : Int32).toInt = 1 := by decide
          exact sf_X9_movesAll_94_ce (u_row := u_row) (u_col := u_col) (u_sR := u_sR) (u_sC := u_sC) (A := A) (B9 := B9) (a9 := a9) (b9 := b9) hN _ _ _ _ _ _ _ _ _ _ _ _ _ _ _ _ _ _ _ _ h_0 h_1 h_2 h_3 h_4 h_5 h_6 h_7 h_8 h_9 h_10 h_11 h_12 h_13 h_14 (by first | assumption | omega | decide) h_23 (by omega) (by omega) (by first | assumption | omega | decide) (by omega) (by omega) h_15 h_16 h_17 h_18 h_19 h_20 h_21 h_22 h_26 (by omega) (by omega) (by omega)
        ·
          have dc_34 := i_nle c_34
          refine wp_of (uf_X9_movesAll_89 _ _ _ _ _ _ _ _ _ _ _ _ _ _ _ _ _ _ _) ?_
          have n_40 : (1 : Int32).toInt = 1 := by decide
          exact sf_X9_movesAll_94_ce (u_row := u_row) (u_col := u_col) (u_sR := u_sR) (u_sC := u_sC) (A := A) (B9 := B9) (a9 := a9) (b9 := b9) hN _ _ _ _ _ _ _ _ _ _ _ _ _ _ _ _ _ _ _ _ h_0 h_1 h_2 h_3 h_4 h_5 h_6 h_7 h_8 h_9 h_10 h_11 h_12 h_13 h_14 (by first | assumption | omega | decide) h_23 (by omega) (by omega) (by first | assumption | omega | decide) (by omega) (by omega) h_15 h_16 h_17 h_18 h_19 h_20 h_21 h_22 h_26 (by omega) (by omega) (by omega)
      ·
        have dc_30 := i_ne c_30
        refine wp_of (uf_X9_movesAll_37 _ _ _ _ _ _ _ _ _ _ _ _ _ _ _ _ _) ?_
        refine wp_ifn (by decide) ?_
        refine wp_ck (i_inb (by omega) (by omega)) ?_
        refine wp_of (uf_X9_movesAll_59 _ _ _ _ _ _ _ _ _ _ _ _ _ _ _ _ _ _) ?_
        refine wp_ifp (by decide) ?_
        generalize hz_z__42 : ((2 : Int32) * x2) = z__42
        first | have e_43 := i_mulLE (c := 2) (by decide) hz_z__42 (by omega) (by omega) | obtain ⟨k_43, e_43, e1_43, e2_43⟩ := i_mulL (c := 2) (by decide) hz_z__42
        generalize hz_z__44 : (z__42 - (mm_ig v_shapeColumns x1)) = z__44
        first | have e_45 := i_subE hz_z__44 (by omega) (by omega) | obtain ⟨k_45, e_45, e1_45, e2_45⟩ := i_subY hz_z__44
        refine wp_if (fun c_41 => ?_) (fun c_41 => ?_)
        ·
          have dc_41 := i_le c_41
          refine wp_of (uf_X9_movesAll_89 _ _ _ _ _ _ _ _ _ _ _ _ _ _ _ _ _ _ _) ?_
          have n_46 : (1 : Int32).toInt = 1 := by decide
          exact sf_X9_movesAll_94_ce (u_row := u_row) (u_col := u_col) (u_sR := u_sR) (u_sC := u_sC) (A := A) (B9 := B9) (a9 := a9) (b9 := b9) hN _ _ _ _ _ _ _ _ _ _ _ _ _ _ _ _ _ _ _ _ h_0 h_1 h_2 h_3 h_4 h_5 h_6 h_7 h_8 h_9 h_10 h_11 h_12 h_13 h_14 (by first | assumption | omega | decide) h_23 (by omega) (by omega) (by first | assumption | omega | decide) (by omega) (by omega) h_15 h_16 h_17 h_18 h_19 h_20 h_21 h_22 h_26 (by omega) (by omega) (by omega)
        ·
          have dc_41 := i_nle c_41
          refine wp_of (uf_X9_movesAll_89 _ _ _ _ _ _ _ _ _ _ _ _ _ _ _ _ _ _ _) ?_
          have n_47 : (1 : Int32).toInt = 1 := by decide
          exact sf_X9_movesAll_94_ce (u_row := u_row) (u_col := u_col) (u_sR := u_sR) (u_sC := u_sC) (A := A) (B9 := B9) (a9 := a9) (b9 := b9) hN _ _ _ _ _ _ _ _ _ _ _ _ _ _ _ _ _ _ _ _ h_0 h_1 h_2 h_3 h_4 h_5 h_6 h_7 h_8 h_9 h_10 h_11 h_12 h_13 h_14 (by first | assumption | omega | decide) h_23 (by omega) (by omega) (by first | assumption | omega | decide) (by omega) (by omega) h_15 h_16 h_17 h_18 h_19 h_20 h_21 h_22 h_26 (by omega) (by omega) (by omega)
    ·
      have dc_26 := i_nle c_26
      refine wp_of (uf_X9_movesAll_24 _ _ _ _ _ _ _ _ _ _ _ _ _ _ _ _ _) ?_
      refine wp_ck (i_nz (by omega)) ?_
      generalize hz_z__49 : (mm_rem x3 (2 : Int32)) = z__49
      have e_50 := i_remL (c := 2) (by decide) (by decide) hz_z__49
      have n_51 : (0 : Int32).toInt = 0 := by decide
      refine wp_if (fun c_48 => ?_) (fun c_48 => ?_)
      ·
        have dc_48 := i_eq c_48
        refine wp_of (uf_X9_movesAll_37 _ _ _ _ _ _ _ _ _ _ _ _ _ _ _ _ _) ?_
        refine wp_ifn (by decide) ?_
        refine wp_ck (i_inb (by omega) (by omega)) ?_
        refine wp_of (uf_X9_movesAll_59 _ _ _ _ _ _ _ _ _ _ _ _ _ _ _ _ _ _) ?_
        refine wp_ifn (by decide) ?_
        refine wp_of (uf_X9_movesAll_89 _ _ _ _ _ _ _ _ _ _ _ _ _ _ _ _ _ _ _) ?_
        have n_52 : (1 : Int32).toInt = 1 := by decide
        exact sf_X9_movesAll_94_cs (u_row := u_row) (u_col := u_col) (u_sR := u_sR) (u_sC := u_sC) (A := A) (B9 := B9) (a9 := a9) (b9 := b9) hN _ _ _ _ _ _ _ _ _ _ _ _ _ _ _ _ _ _ _ _ h_0 h_1 h_2 h_3 h_4 h_5 h_6 h_7 h_8 h_9 h_10 h_11 h_12 h_13 h_14 (by first | assumption | omega | decide) h_23 (by omega) (by omega) (by first | assumption | omega | decide) (by omega) (by omega) h_15 h_16 h_17 h_18 h_19 h_20 h_21 h_22 h_26 (by omega) (by omega) (by omega)
      ·
        have dc_48 := i_ne c_48
        refine wp_of (uf_X9_movesAll_37 _ _ _ _ _ _ _ _ _ _ _ _ _ _ _ _ _) ?_
        refine wp_ifn (by decide) ?_
        refine wp_ck (i_inb (by omega) (by omega)) ?_
        refine wp_of (uf_X9_movesAll_59 _ _ _ _ _ _ _ _ _ _ _ _ _ _ _ _ _ _) ?_
        refine wp_ifn (by decide) ?_
        refine wp_of (uf_X9_movesAll_89 _ _ _ _ _ _ _ _ _ _ _ _ _ _ _ _ _ _ _) ?_
        have n_53 : (1 : Int32).toInt = 1 := by decide
        exact sf_X9_movesAll_94_cs (u_row := u_row) (u_col := u_col) (u_sR := u_sR) (u_sC := u_sC) (A := A) (B9 := B9) (a9 := a9) (b9 := b9) hN _ _ _ _ _ _ _ _ _ _ _ _ _ _ _ _ _ _ _ _ h_0 h_1 h_2 h_3 h_4 h_5 h_6 h_7 h_8 h_9 h_10 h_11 h_12 h_13 h_14 (by first | assumption | omega | decide) h_23 (by omega) (by omega) (by first | assumption | omega | decide) (by omega) (by omega) h_15 h_16 h_17 h_18 h_19 h_20 h_21 h_22 h_26 (by omega) (by omega) (by omega)

theorem uf_X9_foldsOn (N : Nat) (x1 : Int32) (x2 : Int32) (x3 : Int32) (v_rowsOf : Int32) (v_columnsOf : Int32) (v_textMany : Int32) (v_base : Int32) (v_at : Int32) (v_ends : Int32) (v_fault : Int32) (v_opened : Int32) (v_bentMany : Int32) (v_bentWrong : Int32) (v_moreWorn : Int32) (v_limit : List Int32) (v_shapeRows : List Int32) (v_shapeColumns : List Int32) (v_row : List Int32) (v_column : List Int32) (v_below : List Int32) (v_face : List Int32) (v_worn : List Int32) (v_lastBend : List Int32) (v_tape : List Int32) (v_text : List Int32) (v_names : List Int32) (v_bends : List Int32) (v_high : List Int32) (v_to : List Int32) (v_pileSize : List Int32) : fX9_foldsOn N x1 x2 x3 v_rowsOf v_columnsOf v_textMany v_base v_at v_ends v_fault v_opened v_bentMany v_bentWrong v_moreWorn v_limit v_shapeRows v_shapeColumns v_row v_column v_below v_face v_worn v_lastBend v_tape v_text v_names v_bends v_high v_to v_pileSize = mm_bd12 (fX9_bendsAll N x1 x2 x3 v_rowsOf v_columnsOf v_textMany v_base v_at v_ends v_fault v_opened v_bentMany v_bentWrong v_moreWorn v_limit v_row v_column v_face v_worn v_lastBend v_tape v_text v_names v_bends) (fun (w_1 : Int32) (w_2 : Int32) (w_3 : Int32) (w_4 : Int32) (w_5 : Int32) (w_6 : Int32) (w_7 : Int32) (w_8 : Int32) (w_9 : List Int32) (w_10 : List Int32) (w_11 : List Int32) (w_12 : List Int32) =>
    mm_bd9 (fX9_movesAll N x1 x2 x3 v_rowsOf v_columnsOf v_shapeRows v_shapeColumns v_row v_column v_below v_face v_high v_to v_pileSize) (fun (w_14 : List Int32) (w_15 : List Int32) (w_16 : List Int32) (w_17 : List Int32) (w_18 : List Int32) (w_19 : List Int32) (w_20 : List Int32) (w_21 : List Int32) (w_22 : List Int32) =>
    some (w_1, w_2, w_3, w_4, w_5, w_6, w_7, w_8, w_14, w_15, w_16, w_17, w_18, w_19, w_9, w_10, w_11, w_12, w_20, w_21, w_22))) := rfl

set_option maxHeartbeats 4000000 in
set_option maxRecDepth 20000 in
theorem sf_X9_foldsOn {N : Nat} (hN : 700 ≤ N) {u_row : List Int32} {u_col : List Int32} {u_sR : List Int32} {u_sC : List Int32} {A : Int} {B9 : Int} {a9 : Int} {b9 : Int} {x1 : Int32} {x2 : Int32} {x3 : Int32} {v_rowsOf : Int32} {v_columnsOf : Int32} {v_textMany : Int32} {v_base : Int32} {v_at : Int32} {v_ends : Int32} {v_fault : Int32} {v_opened : Int32} {v_bentMany : Int32} {v_bentWrong : Int32} {v_moreWorn : Int32} {v_limit : List Int32} {v_shapeRows : List Int32} {v_shapeColumns : List Int32} {v_row : List Int32} {v_column : List Int32} {v_below : List Int32} {v_face : List Int32} {v_worn : List Int32} {v_lastBend : List Int32} {v_tape : List Int32} {v_text : List Int32} {v_names : List Int32} {v_bends : List Int32} {v_high : List Int32} {v_to : List Int32} {v_pileSize : List Int32} (h_0 : 1 ≤ v_rowsOf.toInt) (h_1 : v_rowsOf.toInt ≤ 4) (h_2 : 1 ≤ v_columnsOf.toInt) (h_3 : v_columnsOf.toInt ≤ 8) (h_4 : -1 ≤ v_textMany.toInt) (h_5 : v_textMany.toInt ≤ 120) (h_6 : v_limit.length = 1) (h_7 : v_shapeRows.length = 6) (h_8 : v_shapeColumns.length = 6) (h_9 : v_row.length = 192) (h_10 : v_column.length = 192) (h_11 : v_below.length = 192) (h_12 : v_face.length = 192) (h_13 : v_worn.length = 384) (h_14 : v_lastBend.length = 384) (h_15 : v_tape.length = 120) (h_16 : v_text.length = 120) (h_17 : v_names.length = 6) (h_18 : v_bends.length = 64) (h_19 : v_high.length = 32) (h_20 : v_to.length = 32) (h_21 : v_pileSize.length = 64) (h_22 : 0 ≤ x1.toInt) (h_23 : x1.toInt ≤ 5) (h_24 : fr u_row v_row A B9) (h_25 : fr u_col v_column A B9) (h_26 : fr u_sR v_shapeRows a9 b9) (h_27 : fr u_sC v_shapeColumns a9 b9) (h_28 : A ≤ 32 * x1.toInt) (h_29 : 32 * x1.toInt + 32 ≤ B9) (h_30 : a9 ≤ x1.toInt) (h_31 : x1.toInt < b9) (h_32 : 1 ≤ x2.toInt) (h_33 : (x3.toInt < 4 → x2.toInt < (mm_ig v_shapeColumns x1).toInt)) (h_34 : (4 ≤ x3.toInt → x2.toInt < (mm_ig v_shapeRows x1).toInt)) (h_35 : lv9 v_rowsOf v_columnsOf v_shapeRows v_shapeColumns v_row v_column x1) : wp (fX9_foldsOn N x1 x2 x3 v_rowsOf v_columnsOf v_textMany v_base v_at v_ends v_fault v_opened v_bentMany v_bentWrong v_moreWorn v_limit v_shapeRows v_shapeColumns v_row v_column v_below v_face v_worn v_lastBend v_tape v_text v_names v_bends v_high v_to v_pileSize) (cu21 (fun (wv_base : Int32) (wv_at : Int32) (wv_ends : Int32) (wv_fault : Int32) (wv_opened : Int32) (wv_bentMany : Int32) (wv_bentWrong : Int32) (wv_moreWorn : Int32) (wv_shapeRows : List Int32) (wv_shapeColumns : List Int32) (wv_row : List Int32) (wv_column : List Int32) (wv_below : List Int32) (wv_face : List Int32) (wv_worn : List Int32) (wv_lastBend : List Int32) (wv_names : List Int32) (wv_bends : List Int32) (wv_high : List Int32) (wv_to : List Int32) (wv_pileSize : List Int32) => wv_shapeRows.length = 6 ∧ wv_shapeColumns.length = 6 ∧ wv_row.length = 192 ∧ wv_column.length = 192 ∧ wv_below.length = 192 ∧ wv_face.length = 192 ∧ wv_worn.length = 384 ∧ wv_lastBend.length = 384 ∧ wv_names.length = 6 ∧ wv_bends.length = 64 ∧ wv_high.length = 32 ∧ wv_to.length = 32 ∧ wv_pileSize.length = 64 ∧ fr u_row wv_row A B9 ∧ fr u_col wv_column A B9 ∧ fr u_sR wv_shapeRows a9 b9 ∧ fr u_sC wv_shapeColumns a9 b9 ∧ lv9 v_rowsOf v_columnsOf wv_shapeRows wv_shapeColumns wv_row wv_column x1)) := by
  have m3 := (i_fl (a := v_rowsOf) (b := v_columnsOf) (by omega) (by omega) (by omega) (by omega)).2
  refine wp_of (uf_X9_foldsOn _ _ _ _ _ _ _ _ _ _ _ _ _ _ _ _ _ _ _ _ _ _ _ _ _ _ _ _ _ _ _) ?_
  refine wp_bd12 (sf_X9_bendsAll hN h_0 h_1 h_2 h_3 h_4 h_5 h_6 h_9 h_10 h_12 h_13 h_14 h_15 h_16 h_17 h_18 h_22 h_23) (fun w_1 w_2 w_3 w_4 w_5 w_6 w_7 w_8 w_9 w_10 w_11 w_12 ⟨q_1, q_2, q_3, q_4⟩ => ?_)
  refine wp_bd9 (sf_X9_movesAll (u_row := u_row) (u_col := u_col) (u_sR := u_sR) (u_sC := u_sC) (A := A) (B9 := B9) (a9 := a9) (b9 := b9) hN h_0 h_1 h_2 h_3 h_7 h_8 h_9 h_10 h_11 h_12 h_19 h_20 h_21 h_22 h_23 h_24 h_25 h_26 h_27 h_28 h_29 h_30 h_31 h_32 h_33 h_34 h_35) (fun w_14 w_15 w_16 w_17 w_18 w_19 w_20 w_21 w_22 ⟨q_5, q_6, q_7, q_8, q_9, q_10, q_11, q_12, q_13, q_14, q_15, q_16, q_17, q_18⟩ => ?_)
  exact wp_so21 ⟨q_5, q_6, q_7, q_8, q_9, q_10, q_1, q_2, q_3, q_4, q_11, q_12, q_13, q_14, q_15, q_16, q_17, q_18⟩
