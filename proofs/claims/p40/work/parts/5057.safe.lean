/-! safe -/
theorem uf_X9_sizeAt_53 (N : Nat) (k_6 : Int32 → Int32 → Int32 → Int32 → Int32 → Int32 → Int32 → List Int32 → List Int32 → Option (Int32)) (x1 : Int32) (x2 : Int32) (x3 : Int32) (x5 : Int32) (s0 : Int32) (v_rowsOf : Int32) (v_columnsOf : Int32) (v_row : List Int32) (v_column : List Int32) : fX9_sizeAt_53 N k_6 x1 x2 x3 x5 s0 v_rowsOf v_columnsOf v_row v_column = fX9_sizeAt_54 N k_6 x1 x2 x3 x5 (0 : Int32) s0 v_rowsOf v_columnsOf v_row v_column := rfl

theorem uf_X9_sizeAt_54 (N : Nat) (k_6 : Int32 → Int32 → Int32 → Int32 → Int32 → Int32 → Int32 → List Int32 → List Int32 → Option (Int32)) (x1 : Int32) (x2 : Int32) (x3 : Int32) (x5 : Int32) (s0 : Int32) (s1 : Int32) (v_rowsOf : Int32) (v_columnsOf : Int32) (v_row : List Int32) (v_column : List Int32) : fX9_sizeAt_54 N k_6 x1 x2 x3 x5 s0 s1 v_rowsOf v_columnsOf v_row v_column = mm_nm ((s1 + s0)) (fun (y_8 : Int32) =>
    mm_nm (x5 + (1 : Int32)) (fun (y_9 : Int32) =>
    k_6 x1 x2 x3 y_8 y_9 v_rowsOf v_columnsOf v_row v_column)) := rfl

theorem uf_X9_sizeAt_6 (N : Nat) (n : Nat) (x1 : Int32) (x2 : Int32) (x3 : Int32) (x4 : Int32) (x5 : Int32) (v_rowsOf : Int32) (v_columnsOf : Int32) (v_row : List Int32) (v_column : List Int32) : fX9_sizeAt_6 N (n + 1) x1 x2 x3 x4 x5 v_rowsOf v_columnsOf v_row v_column = 
    mm_bd1 (fX9_fields N v_rowsOf v_columnsOf) (fun (r_1 : Int32) =>
    if r_1 ≤ x5 then
    (some (x4))
    else (mm_ck (mm_inb (((32 : Int32) * x1) + x5) v_row.length) (if (mm_ig v_row (((32 : Int32) * x1) + x5)) = x2 then
    (mm_ck (mm_inb (((32 : Int32) * x1) + x5) v_column.length) (if (mm_ig v_column (((32 : Int32) * x1) + x5)) = x3 then
    (fX9_sizeAt_54 N (fX9_sizeAt_6 N n) x1 x2 x3 x5 (1 : Int32) x4 v_rowsOf v_columnsOf v_row v_column)
    else (fX9_sizeAt_53 N (fX9_sizeAt_6 N n) x1 x2 x3 x5 x4 v_rowsOf v_columnsOf v_row v_column)))
    else (fX9_sizeAt_53 N (fX9_sizeAt_6 N n) x1 x2 x3 x5 x4 v_rowsOf v_columnsOf v_row v_column)))) := rfl

set_option maxHeartbeats 4000000 in
set_option maxRecDepth 20000 in
theorem sf_X9_sizeAt_6 {N : Nat} (hN : 700 ≤ N)  : ∀ (n : Nat) (x1 : Int32) (x2 : Int32) (x3 : Int32) (x4 : Int32) (x5 : Int32) (v_rowsOf : Int32) (v_columnsOf : Int32) (v_row : List Int32) (v_column : List Int32), 1 ≤ v_rowsOf.toInt → v_rowsOf.toInt ≤ 4 → 1 ≤ v_columnsOf.toInt → v_columnsOf.toInt ≤ 8 → v_row.length = 192 → v_column.length = 192 → 0 ≤ x1.toInt → x1.toInt ≤ 5 → 0 ≤ x5.toInt → x5.toInt ≤ v_rowsOf.toInt * v_columnsOf.toInt → (v_rowsOf.toInt * v_columnsOf.toInt - x5.toInt).toNat < n → wp (fX9_sizeAt_6 N n x1 x2 x3 x4 x5 v_rowsOf v_columnsOf v_row v_column) (fun (r : Int32) => True) := by
  intro n
  induction n with
  | zero =>
    intro x1 x2 x3 x4 x5 v_rowsOf v_columnsOf v_row v_column h_0 h_1 h_2 h_3 h_4 h_5 h_6 h_7 h_8 h_9 hm
    exact absurd hm (by omega)
  | succ n ih =>
    intro x1 x2 x3 x4 x5 v_rowsOf v_columnsOf v_row v_column h_0 h_1 h_2 h_3 h_4 h_5 h_6 h_7 h_8 h_9 hm
    have m3 := (i_fl (a := v_rowsOf) (b := v_columnsOf) (by omega) (by omega) (by omega) (by omega)).2
    refine wp_of (uf_X9_sizeAt_6 _ _ _ _ _ _ _ _ _ _ _) ?_
    refine wp_bd1 (sf_X9_fields hN h_0 h_1 h_2 h_3) (fun r_1 ⟨q_1, q_2, q_3⟩ => ?_)
    refine wp_if (fun c_4 => ?_) (fun c_4 => ?_)
    ·
      have dc_4 := i_le c_4
      exact wp_so1 trivial
    ·
      have dc_4 := i_nle c_4
      have n_5 : (32 : Int32).toInt = 32 := by decide
      generalize hz_z : ((32 : Int32) * x1) = z
      have e_6 := i_mulLE (c := 32) (by decide) hz_z (by omega) (by omega)
      generalize hz_z__7 : (z + x5) = z__7
      have e_8 := i_addE hz_z__7 (by omega) (by omega)
      refine wp_ck (i_inb (by omega) (by omega)) ?_
      refine wp_if (fun c_9 => ?_) (fun c_9 => ?_)
      ·
        have dc_9 := i_eq c_9
        refine wp_ck (i_inb (by omega) (by omega)) ?_
        refine wp_if (fun c_10 => ?_) (fun c_10 => ?_)
        ·
          have dc_10 := i_eq c_10
          refine wp_of (uf_X9_sizeAt_54 _ _ _ _ _ _ _ _ _ _ _ _) ?_
          refine wp_nm (fun y_8 _ => ?_)
          have n_11 : (1 : Int32).toInt = 1 := by decide
          refine wp_nm (fun y_9 h_y_9 => ?_)
          have e_12 := i_addE h_y_9.symm (by omega) (by omega)
          exact ih _ _ _ _ _ _ _ _ _ h_0 h_1 h_2 h_3 h_4 h_5 h_6 h_7 (by omega) (by omega) (by omega)
        ·
          have dc_10 := i_ne c_10
          refine wp_of (uf_X9_sizeAt_53 _ _ _ _ _ _ _ _ _ _ _) ?_
          refine wp_of (uf_X9_sizeAt_54 _ _ _ _ _ _ _ _ _ _ _ _) ?_
          refine wp_nm (fun y_8__13 _ => ?_)
          have n_15 : (1 : Int32).toInt = 1 := by decide
          refine wp_nm (fun y_9__14 h_y_9__14 => ?_)
          have e_16 := i_addE h_y_9__14.symm (by omega) (by omega)
          exact ih _ _ _ _ _ _ _ _ _ h_0 h_1 h_2 h_3 h_4 h_5 h_6 h_7 (by omega) (by omega) (by omega)
      ·
        have dc_9 := i_ne c_9
        refine wp_of (uf_X9_sizeAt_53 _ _ _ _ _ _ _ _ _ _ _) ?_
        refine wp_of (uf_X9_sizeAt_54 _ _ _ _ _ _ _ _ _ _ _ _) ?_
        refine wp_nm (fun y_8__17 _ => ?_)
        have n_19 : (1 : Int32).toInt = 1 := by decide
        refine wp_nm (fun y_9__18 h_y_9__18 => ?_)
        have e_20 := i_addE h_y_9__18.symm (by omega) (by omega)
        exact ih _ _ _ _ _ _ _ _ _ h_0 h_1 h_2 h_3 h_4 h_5 h_6 h_7 (by omega) (by omega) (by omega)

theorem uf_X9_sizeAt (N : Nat) (x1 : Int32) (x2 : Int32) (x3 : Int32) (v_rowsOf : Int32) (v_columnsOf : Int32) (v_row : List Int32) (v_column : List Int32) : fX9_sizeAt N x1 x2 x3 v_rowsOf v_columnsOf v_row v_column = fX9_sizeAt_6 N N x1 x2 x3 (0 : Int32) (0 : Int32) v_rowsOf v_columnsOf v_row v_column := rfl

set_option maxHeartbeats 4000000 in
set_option maxRecDepth 20000 in
theorem sf_X9_sizeAt {N : Nat} (hN : 700 ≤ N) {x1 : Int32} {x2 : Int32} {x3 : Int32} {v_rowsOf : Int32} {v_columnsOf : Int32} {v_row : List Int32} {v_column : List Int32} (h_0 : 1 ≤ v_rowsOf.toInt) (h_1 : v_rowsOf.toInt ≤ 4) (h_2 : 1 ≤ v_columnsOf.toInt) (h_3 : v_columnsOf.toInt ≤ 8) (h_4 : v_row.length = 192) (h_5 : v_column.length = 192) (h_6 : 0 ≤ x1.toInt) (h_7 : x1.toInt ≤ 5) : wp (fX9_sizeAt N x1 x2 x3 v_rowsOf v_columnsOf v_row v_column) (fun (r : Int32) => True) := by
  have m3 := (i_fl (a := v_rowsOf) (b := v_columnsOf) (by omega) (by omega) (by omega) (by omega)).2
  refine wp_of (uf_X9_sizeAt _ _ _ _ _ _ _ _) ?_
  have n_1 : (0 : Int32).toInt = 0 := by decide
  exact sf_X9_sizeAt_6 hN _ _ _ _ _ _ _ _ _ _ h_0 h_1 h_2 h_3 h_4 h_5 h_6 h_7 (by omega) (by omega) (by omega)

theorem uf_X9_fieldAt_3 (N : Nat) (n : Nat) (x1 : Int32) (x2 : Int32) (x3 : Int32) (x4 : Int32) (x5 : Int32) (v_rowsOf : Int32) (v_columnsOf : Int32) (v_row : List Int32) (v_column : List Int32) (v_below : List Int32) : fX9_fieldAt_3 N (n + 1) x1 x2 x3 x4 x5 v_rowsOf v_columnsOf v_row v_column v_below = 
    mm_bd1 (fX9_fields N v_rowsOf v_columnsOf) (fun (r_1 : Int32) =>
    if r_1 ≤ x5 then
    (some ((-1 : Int32)))
    else (mm_nm ((((32 : Int32) * x1) + x5)) (fun (y_4 : Int32) =>
    mm_ck (mm_inb y_4 v_row.length) (if (mm_ig v_row y_4) = x2 then
    (mm_ck (mm_inb y_4 v_column.length) (if (mm_ig v_column y_4) = x3 then
    (mm_ck (mm_inb y_4 v_below.length) (if (mm_ig v_below y_4) = x4 then
    (some (x5))
    else (fX9_fieldAt_58 N (fX9_fieldAt_3 N n) x1 x2 x3 x4 x5 v_rowsOf v_columnsOf v_row v_column v_below)))
    else (fX9_fieldAt_58 N (fX9_fieldAt_3 N n) x1 x2 x3 x4 x5 v_rowsOf v_columnsOf v_row v_column v_below)))
    else (fX9_fieldAt_58 N (fX9_fieldAt_3 N n) x1 x2 x3 x4 x5 v_rowsOf v_columnsOf v_row v_column v_below))))) := rfl

theorem uf_X9_fieldAt_58 (N : Nat) (k_3 : Int32 → Int32 → Int32 → Int32 → Int32 → Int32 → Int32 → List Int32 → List Int32 → List Int32 → Option (Int32)) (x1 : Int32) (x2 : Int32) (x3 : Int32) (x4 : Int32) (x5 : Int32) (v_rowsOf : Int32) (v_columnsOf : Int32) (v_row : List Int32) (v_column : List Int32) (v_below : List Int32) : fX9_fieldAt_58 N k_3 x1 x2 x3 x4 x5 v_rowsOf v_columnsOf v_row v_column v_below = mm_nm (x5 + (1 : Int32)) (fun (y_11 : Int32) =>
    k_3 x1 x2 x3 x4 y_11 v_rowsOf v_columnsOf v_row v_column v_below) := rfl

set_option maxHeartbeats 4000000 in
set_option maxRecDepth 20000 in
theorem sf_X9_fieldAt_3 {N : Nat} (hN : 700 ≤ N)  : ∀ (n : Nat) (x1 : Int32) (x2 : Int32) (x3 : Int32) (x4 : Int32) (x5 : Int32) (v_rowsOf : Int32) (v_columnsOf : Int32) (v_row : List Int32) (v_column : List Int32) (v_below : List Int32), 1 ≤ v_rowsOf.toInt → v_rowsOf.toInt ≤ 4 → 1 ≤ v_columnsOf.toInt → v_columnsOf.toInt ≤ 8 → v_row.length = 192 → v_column.length = 192 → v_below.length = 192 → 0 ≤ x1.toInt → x1.toInt ≤ 5 → 0 ≤ x5.toInt → x5.toInt ≤ v_rowsOf.toInt * v_columnsOf.toInt → (v_rowsOf.toInt * v_columnsOf.toInt - x5.toInt).toNat < n → wp (fX9_fieldAt_3 N n x1 x2 x3 x4 x5 v_rowsOf v_columnsOf v_row v_column v_below) (fun (r : Int32) => True) := by
  intro n
  induction n with
  | zero =>
    intro x1 x2 x3 x4 x5 v_rowsOf v_columnsOf v_row v_column v_below h_0 h_1 h_2 h_3 h_4 h_5 h_6 h_7 h_8 h_9 h_10 hm
    exact absurd hm (by omega)
  | succ n ih =>
    intro x1 x2 x3 x4 x5 v_rowsOf v_columnsOf v_row v_column v_below h_0 h_1 h_2 h_3 h_4 h_5 h_6 h_7 h_8 h_9 h_10 hm
    have m3 := (i_fl (a := v_rowsOf) (b := v_columnsOf) (by omega) (by omega) (by omega) (by omega)).2
    refine wp_of (uf_X9_fieldAt_3 _ _ _ _ _ _ _ _ _ _ _ _) ?_
    refine wp_bd1 (sf_X9_fields hN h_0 h_1 h_2 h_3) (fun r_1 ⟨q_1, q_2, q_3⟩ => ?_)
    refine wp_if (fun c_4 => ?_) (fun c_4 => ?_)
    ·
      have dc_4 := i_le c_4
      exact wp_so1 trivial
    ·
      have dc_4 := i_nle c_4
      have n_5 : (32 : Int32).toInt = 32 := by decide
      generalize hz_z : ((32 : Int32) * x1) = z
      have e_6 := i_mulLE (c := 32) (by decide) hz_z (by omega) (by omega)
      refine wp_nm (fun y_4 h_y_4 => ?_)
      have e_7 := i_addE h_y_4.symm (by omega) (by omega)
      refine wp_ck (i_inb (by omega) (by omega)) ?_
      refine wp_if (fun c_8 => ?_) (fun c_8 => ?_)
      ·
        have dc_8 := i_eq c_8
        refine wp_ck (i_inb (by omega) (by omega)) ?_
        refine wp_if (fun c_9 => ?_) (fun c_9 => ?_)
        ·
          have dc_9 := i_eq c_9
          refine wp_ck (i_inb (by omega) (by omega)) ?_
          refine wp_if (fun c_10 => ?_) (fun c_10 => ?_)
          ·
            have dc_10 := i_eq c_10
            exact wp_so1 trivial
          ·
            have dc_10 := i_ne c_10
            refine wp_of (uf_X9_fieldAt_58 _ _ _ _ _ _ _ _ _ _ _ _) ?_
            have n_11 : (1 : Int32).toInt = 1 := by decide
            refine wp_nm (fun y_11 h_y_11 => ?_)
            have e_12 := i_addE h_y_11.symm (by omega) (by omega)
            exact ih _ _ _ _ _ _ _ _ _ _ h_0 h_1 h_2 h_3 h_4 h_5 h_6 h_7 h_8 (by omega) (by omega) (by omega)
        ·
          have dc_9 := i_ne c_9
          refine wp_of (uf_X9_fieldAt_58 _ _ _ _ _ _ _ _ _ _ _ _) ?_
          have n_14 : (1 : Int32).toInt = 1 := by decide
          refine wp_nm (fun y_11__13 h_y_11__13 => ?_)
          have e_15 := i_addE h_y_11__13.symm (by omega) (by omega)
          exact ih _ _ _ _ _ _ _ _ _ _ h_0 h_1 h_2 h_3 h_4 h_5 h_6 h_7 h_8 (by omega) (by omega) (by omega)
      ·
        have dc_8 := i_ne c_8
        refine wp_of (uf_X9_fieldAt_58 _ _ _ _ _ _ _ _ _ _ _ _) ?_
        have n_17 : (1 : Int32).toInt = 1 := by decide
        refine wp_nm (fun y_11__16 h_y_11__16 => ?_)
        have e_18 := i_addE h_y_11__16.symm (by omega) (by omega)
        exact ih _ _ _ _ _ _ _ _ _ _ h_0 h_1 h_2 h_3 h_4 h_5 h_6 h_7 h_8 (by omega) (by omega) (by omega)

theorem uf_X9_fieldAt (N : Nat) (x1 : Int32) (x2 : Int32) (x3 : Int32) (x4 : Int32) (v_rowsOf : Int32) (v_columnsOf : Int32) (v_row : List Int32) (v_column : List Int32) (v_below : List Int32) : fX9_fieldAt N x1 x2 x3 x4 v_rowsOf v_columnsOf v_row v_column v_below = fX9_fieldAt_3 N N x1 x2 x3 x4 (0 : Int32) v_rowsOf v_columnsOf v_row v_column v_below := rfl

set_option maxHeartbeats 4000000 in
set_option maxRecDepth 20000 in
theorem sf_X9_fieldAt {N : Nat} (hN : 700 ≤ N) {x1 : Int32} {x2 : Int32} {x3 : Int32} {x4 : Int32} {v_rowsOf : Int32} {v_columnsOf : Int32} {v_row : List Int32} {v_column : List Int32} {v_below : List Int32} (h_0 : 1 ≤ v_rowsOf.toInt) (h_1 : v_rowsOf.toInt ≤ 4) (h_2 : 1 ≤ v_columnsOf.toInt) (h_3 : v_columnsOf.toInt ≤ 8) (h_4 : v_row.length = 192) (h_5 : v_column.length = 192) (h_6 : v_below.length = 192) (h_7 : 0 ≤ x1.toInt) (h_8 : x1.toInt ≤ 5) : wp (fX9_fieldAt N x1 x2 x3 x4 v_rowsOf v_columnsOf v_row v_column v_below) (fun (r : Int32) => True) := by
  have m3 := (i_fl (a := v_rowsOf) (b := v_columnsOf) (by omega) (by omega) (by omega) (by omega)).2
  refine wp_of (uf_X9_fieldAt _ _ _ _ _ _ _ _ _ _) ?_
  have n_1 : (0 : Int32).toInt = 0 := by decide
  exact sf_X9_fieldAt_3 hN _ _ _ _ _ _ _ _ _ _ _ h_0 h_1 h_2 h_3 h_4 h_5 h_6 h_7 h_8 (by omega) (by omega) (by omega)

theorem uf_X9_shape_36 (N : Nat) (k_4 : Int32 → Int32 → Int32 → Int32 → Int32 → List Int32 → List Int32 → List Int32 → Option (Int32)) (x1 : Int32) (x3 : Int32) (s0 : Int32) (v_rowsOf : Int32) (v_columnsOf : Int32) (v_shapeRows : List Int32) (v_shapeColumns : List Int32) (v_below : List Int32) : fX9_shape_36 N k_4 x1 x3 s0 v_rowsOf v_columnsOf v_shapeRows v_shapeColumns v_below = mm_nm (x3 + (1 : Int32)) (fun (y_12 : Int32) =>
    k_4 x1 s0 y_12 v_rowsOf v_columnsOf v_shapeRows v_shapeColumns v_below) := rfl

theorem uf_X9_shape_4 (N : Nat) (n : Nat) (x1 : Int32) (x2 : Int32) (x3 : Int32) (v_rowsOf : Int32) (v_columnsOf : Int32) (v_shapeRows : List Int32) (v_shapeColumns : List Int32) (v_below : List Int32) : fX9_shape_4 N (n + 1) x1 x2 x3 v_rowsOf v_columnsOf v_shapeRows v_shapeColumns v_below = 
    mm_bd1 (fX9_fields N v_rowsOf v_columnsOf) (fun (r_1 : Int32) =>
    if r_1 ≤ x3 then
    (if x1 = 0 then
    (mm_ck (mm_inb (0 : Int32) v_shapeRows.length) (some ((mm_ig v_shapeRows (0 : Int32)))))
    else (if x1 = (1 : Int32) then
    (mm_ck (mm_inb (0 : Int32) v_shapeColumns.length) (some ((mm_ig v_shapeColumns (0 : Int32)))))
    else (if x1 = (2 : Int32) then
    (some (x2))
    else (some ((-1 : Int32))))))
    else (mm_ck (mm_inb x3 v_below.length) (if ((mm_ig v_below x3) + (1 : Int32)) ≤ x2 then
    (fX9_shape_36 N (fX9_shape_4 N n) x1 x3 x2 v_rowsOf v_columnsOf v_shapeRows v_shapeColumns v_below)
    else (mm_ck (mm_inb x3 v_below.length) (fX9_shape_36 N (fX9_shape_4 N n) x1 x3 ((mm_ig v_below x3) + (1 : Int32)) v_rowsOf v_columnsOf v_shapeRows v_shapeColumns v_below))))) := rfl

set_option maxHeartbeats 4000000 in
set_option maxRecDepth 20000 in
theorem sf_X9_shape_4 {N : Nat} (hN : 700 ≤ N)  : ∀ (n : Nat) (x1 : Int32) (x2 : Int32) (x3 : Int32) (v_rowsOf : Int32) (v_columnsOf : Int32) (v_shapeRows : List Int32) (v_shapeColumns : List Int32) (v_below : List Int32), 1 ≤ v_rowsOf.toInt → v_rowsOf.toInt ≤ 4 → 1 ≤ v_columnsOf.toInt → v_columnsOf.toInt ≤ 8 → v_shapeRows.length = 6 → v_shapeColumns.length = 6 → v_below.length = 192 → 0 ≤ x3.toInt → x3.toInt ≤ v_rowsOf.toInt * v_columnsOf.toInt → (v_rowsOf.toInt * v_columnsOf.toInt - x3.toInt).toNat < n → wp (fX9_shape_4 N n x1 x2 x3 v_rowsOf v_columnsOf v_shapeRows v_shapeColumns v_below) (fun (r : Int32) => True) := by
  intro n
  induction n with
  | zero =>
    intro x1 x2 x3 v_rowsOf v_columnsOf v_shapeRows v_shapeColumns v_below h_0 h_1 h_2 h_3 h_4 h_5 h_6 h_7 h_8 hm
    exact absurd hm (by omega)
  | succ n ih =>
    intro x1 x2 x3 v_rowsOf v_columnsOf v_shapeRows v_shapeColumns v_below h_0 h_1 h_2 h_3 h_4 h_5 h_6 h_7 h_8 hm
    have m3 := (i_fl (a := v_rowsOf) (b := v_columnsOf) (by omega) (by omega) (by omega) (by omega)).2
    refine wp_of (uf_X9_shape_4 _ _ _ _ _ _ _ _ _ _) ?_
    refine wp_bd1 (sf_X9_fields hN h_0 h_1 h_2 h_3) (fun r_1 ⟨q_1, q_2, q_3⟩ => ?_)
    refine wp_if (fun c_4 => ?_) (fun c_4 => ?_)
    ·
      have dc_4 := i_le c_4
      have n_6 : (0 : Int32).toInt = 0 := by decide
      refine wp_if (fun c_5 => ?_) (fun c_5 => ?_)
      ·
        have dc_5 := i_eq c_5
        refine wp_ck (i_inb (by omega) (by omega)) ?_
        exact wp_so1 trivial
      ·
        have dc_5 := i_ne c_5
        have n_8 : (1 : Int32).toInt = 1 := by decide
        refine wp_if (fun c_7 => ?_) (fun c_7 => ?_)
        ·
          have dc_7 := i_eq c_7
          refine wp_ck (i_inb (by omega) (by omega)) ?_
          exact wp_so1 trivial
        ·
          have dc_7 := i_ne c_7
          have n_10 : (2 : Int32).toInt = 2 := by decide
          refine wp_if (fun c_9 => ?_) (fun c_9 => ?_)
          ·
            have dc_9 := i_eq c_9
            exact wp_so1 trivial
          ·
            have dc_9 := i_ne c_9
            exact wp_so1 trivial
    ·
      have dc_4 := i_nle c_4
      refine wp_ck (i_inb (by omega) (by omega)) ?_
      have n_12 : (1 : Int32).toInt = 1 := by decide
      generalize hz_z : ((mm_ig v_below x3) + (1 : Int32)) = z
      first | have e_13 := i_addE hz_z (by omega) (by omega) | obtain ⟨k_13, e_13, e1_13, e2_13⟩ := i_addY hz_z
      refine wp_if (fun c_11 => ?_) (fun c_11 => ?_)
      ·
        have dc_11 := i_le c_11
        refine wp_of (uf_X9_shape_36 _ _ _ _ _ _ _ _ _ _) ?_
        refine wp_nm (fun y_12 h_y_12 => ?_)
        have e_14 := i_addE h_y_12.symm (by omega) (by omega)
        exact ih _ _ _ _ _ _ _ _ h_0 h_1 h_2 h_3 h_4 h_5 h_6 (by omega) (by omega) (by omega)
      ·
        have dc_11 := i_nle c_11
        refine wp_ck (i_inb (by omega) (by omega)) ?_
        refine wp_of (uf_X9_shape_36 _ _ _ _ _ _ _ _ _ _) ?_
        refine wp_nm (fun y_12__15 h_y_12__15 => ?_)
        have e_16 := i_addE h_y_12__15.symm (by omega) (by omega)
        exact ih _ _ _ _ _ _ _ _ h_0 h_1 h_2 h_3 h_4 h_5 h_6 (by omega) (by omega) (by omega)

theorem uf_X9_shape (N : Nat) (x1 : Int32) (v_rowsOf : Int32) (v_columnsOf : Int32) (v_shapeRows : List Int32) (v_shapeColumns : List Int32) (v_below : List Int32) : fX9_shape N x1 v_rowsOf v_columnsOf v_shapeRows v_shapeColumns v_below = fX9_shape_4 N N x1 (0 : Int32) (0 : Int32) v_rowsOf v_columnsOf v_shapeRows v_shapeColumns v_below := rfl

set_option maxHeartbeats 4000000 in
set_option maxRecDepth 20000 in
theorem sf_X9_shape {N : Nat} (hN : 700 ≤ N) {x1 : Int32} {v_rowsOf : Int32} {v_columnsOf : Int32} {v_shapeRows : List Int32} {v_shapeColumns : List Int32} {v_below : List Int32} (h_0 : 1 ≤ v_rowsOf.toInt) (h_1 : v_rowsOf.toInt ≤ 4) (h_2 : 1 ≤ v_columnsOf.toInt) (h_3 : v_columnsOf.toInt ≤ 8) (h_4 : v_shapeRows.length = 6) (h_5 : v_shapeColumns.length = 6) (h_6 : v_below.length = 192) : wp (fX9_shape N x1 v_rowsOf v_columnsOf v_shapeRows v_shapeColumns v_below) (fun (r : Int32) => True) := by
  have m3 := (i_fl (a := v_rowsOf) (b := v_columnsOf) (by omega) (by omega) (by omega) (by omega)).2
  refine wp_of (uf_X9_shape _ _ _ _ _ _ _) ?_
  have n_1 : (0 : Int32).toInt = 0 := by decide
  exact sf_X9_shape_4 hN _ _ _ _ _ _ _ _ _ h_0 h_1 h_2 h_3 h_4 h_5 h_6 (by omega) (by omega) (by omega)

theorem uf_X9_isField (N : Nat) (x1 : Int32) (v_rowsOf : Int32) (v_columnsOf : Int32) : fX9_isField N x1 v_rowsOf v_columnsOf = mm_bd1 (fX9_fields N v_rowsOf v_columnsOf) (fun (r_1 : Int32) =>
    mm_bd1 (fX9_within N ((x1).toInt64) (0 : Int64) ((r_1 - (1 : Int32)).toInt64)) (fun (r_3 : Bool) =>
    some (r_3))) := rfl

set_option maxHeartbeats 4000000 in
set_option maxRecDepth 20000 in
theorem sf_X9_isField {N : Nat} (hN : 700 ≤ N) {x1 : Int32} {v_rowsOf : Int32} {v_columnsOf : Int32} (h_0 : 1 ≤ v_rowsOf.toInt) (h_1 : v_rowsOf.toInt ≤ 4) (h_2 : 1 ≤ v_columnsOf.toInt) (h_3 : v_columnsOf.toInt ≤ 8) : wp (fX9_isField N x1 v_rowsOf v_columnsOf) (fun (r : Bool) => ((r = true ∧ 0 ≤ x1.toInt ∧ x1.toInt < v_rowsOf.toInt * v_columnsOf.toInt) ∨ (r = false ∧ True))) := by
  refine wp_of (uf_X9_isField _ _ _ _) ?_
  refine wp_bd1 (sf_X9_fields hN h_0 h_1 h_2 h_3) (fun r_1 ⟨q_1, q_2, q_3⟩ => ?_)
  have n_4 := i_64 x1
  have n_5 : (0 : Int64).toInt = 0 := by decide
  have n_6 : (1 : Int32).toInt = 1 := by decide
  generalize hz_z : (r_1 - (1 : Int32)) = z
  have e_7 := i_subE hz_z (by omega) (by omega)
  have n_8 := i_64 z
  refine wp_bd1 (sf_X9_within hN ) (fun r_3 q_9 => ?_)
  rcases q_9 with ⟨rfl, q_9⟩ | ⟨rfl, q_9⟩
  ·
    exact wp_so1 (by first | exact Or.inl ⟨rfl, by first | trivial | omega⟩ | exact Or.inr ⟨rfl, by first | trivial | omega⟩)
  ·
    exact wp_so1 (by first | exact Or.inl ⟨rfl, by first | trivial | omega⟩ | exact Or.inr ⟨rfl, by first | trivial | omega⟩)

theorem uf_X9_whereOf (N : Nat) (x1 : Int32) (x2 : Int32) (x3 : Int32) (v_row : List Int32) (v_column : List Int32) (v_below : List Int32) (v_face : List Int32) : fX9_whereOf N x1 x2 x3 v_row v_column v_below v_face = mm_nm ((((32 : Int32) * x1) + x2)) (fun (y_1 : Int32) =>
    if x3 = 0 then
    (mm_ck (mm_inb y_1 v_row.length) (some ((mm_ig v_row y_1))))
    else (if x3 = (1 : Int32) then
    (mm_ck (mm_inb y_1 v_column.length) (some ((mm_ig v_column y_1))))
    else (if x3 = (2 : Int32) then
    (mm_ck (mm_inb y_1 v_below.length) (some ((mm_ig v_below y_1))))
    else (mm_ck (mm_inb y_1 v_face.length) (some ((mm_ig v_face y_1))))))) := rfl

set_option maxHeartbeats 4000000 in
set_option maxRecDepth 20000 in
theorem sf_X9_whereOf {N : Nat} (hN : 700 ≤ N) {x1 : Int32} {x2 : Int32} {x3 : Int32} {v_row : List Int32} {v_column : List Int32} {v_below : List Int32} {v_face : List Int32} (h_0 : v_row.length = 192) (h_1 : v_column.length = 192) (h_2 : v_below.length = 192) (h_3 : v_face.length = 192) (h_4 : 0 ≤ x1.toInt) (h_5 : x1.toInt ≤ 5) (h_6 : 0 ≤ x2.toInt) (h_7 : x2.toInt < 32) : wp (fX9_whereOf N x1 x2 x3 v_row v_column v_below v_face) (fun (r : Int32) => True) := by
  refine wp_of (uf_X9_whereOf _ _ _ _ _ _ _ _) ?_
  have n_1 : (32 : Int32).toInt = 32 := by decide
  generalize hz_z : ((32 : Int32) * x1) = z
  have e_2 := i_mulLE (c := 32) (by decide) hz_z (by omega) (by omega)
  refine wp_nm (fun y_1 h_y_1 => ?_)
  have e_3 := i_addE h_y_1.symm (by omega) (by omega)
  have n_5 : (0 : Int32).toInt = 0 := by decide
  refine wp_if (fun c_4 => ?_) (fun c_4 => ?_)
  ·
    have dc_4 := i_eq c_4
    refine wp_ck (i_inb (by omega) (by omega)) ?_
    exact wp_so1 trivial
  ·
    have dc_4 := i_ne c_4
    have n_7 : (1 : Int32).toInt = 1 := by decide
    refine wp_if (fun c_6 => ?_) (fun c_6 => ?_)
    ·
      have dc_6 := i_eq c_6
      refine wp_ck (i_inb (by omega) (by omega)) ?_
      exact wp_so1 trivial
    ·
      have dc_6 := i_ne c_6
      have n_9 : (2 : Int32).toInt = 2 := by decide
      refine wp_if (fun c_8 => ?_) (fun c_8 => ?_)
      ·
        have dc_8 := i_eq c_8
        refine wp_ck (i_inb (by omega) (by omega)) ?_
        exact wp_so1 trivial
      ·
        have dc_8 := i_ne c_8
        refine wp_ck (i_inb (by omega) (by omega)) ?_
        exact wp_so1 trivial

theorem uf_X9_where (N : Nat) (x1 : Int32) (x2 : Int32) (v_rowsOf : Int32) (v_columnsOf : Int32) (v_row : List Int32) (v_column : List Int32) (v_below : List Int32) (v_face : List Int32) : fX9_where N x1 x2 v_rowsOf v_columnsOf v_row v_column v_below v_face = mm_bd1 (fX9_isField N x1 v_rowsOf v_columnsOf) (fun (r_1 : Bool) =>
    if r_1 = false then
    (some ((-1 : Int32)))
    else (mm_bd1 (fX9_within N ((x2).toInt64) (0 : Int64) (3 : Int64)) (fun (r_4 : Bool) =>
    if r_4 = false then
    (some ((-1 : Int32)))
    else (mm_bd1 (fX9_whereOf N (0 : Int32) x1 x2 v_row v_column v_below v_face) (fun (r_7 : Int32) =>
    some (r_7)))))) := rfl

set_option maxHeartbeats 4000000 in
set_option maxRecDepth 20000 in
theorem sf_X9_where {N : Nat} (hN : 700 ≤ N) {x1 : Int32} {x2 : Int32} {v_rowsOf : Int32} {v_columnsOf : Int32} {v_row : List Int32} {v_column : List Int32} {v_below : List Int32} {v_face : List Int32} (h_0 : 1 ≤ v_rowsOf.toInt) (h_1 : v_rowsOf.toInt ≤ 4) (h_2 : 1 ≤ v_columnsOf.toInt) (h_3 : v_columnsOf.toInt ≤ 8) (h_4 : v_row.length = 192) (h_5 : v_column.length = 192) (h_6 : v_below.length = 192) (h_7 : v_face.length = 192) : wp (fX9_where N x1 x2 v_rowsOf v_columnsOf v_row v_column v_below v_face) (fun (r : Int32) => True) := by
  have m3 := (i_fl (a := v_rowsOf) (b := v_columnsOf) (by omega) (by omega) (by omega) (by omega)).2
  refine wp_of (uf_X9_where _ _ _ _ _ _ _ _ _) ?_
  refine wp_bd1 (sf_X9_isField hN h_0 h_1 h_2 h_3) (fun r_1 q_1 => ?_)
  rcases q_1 with ⟨rfl, q_1⟩ | ⟨rfl, q_1⟩
  ·
    refine wp_ifn (by decide) ?_
    have n_2 := i_64 x2
    have n_3 : (0 : Int64).toInt = 0 := by decide
    have n_4 : (3 : Int64).toInt = 3 := by decide
    refine wp_bd1 (sf_X9_within hN ) (fun r_4 q_5 => ?_)
    rcases q_5 with ⟨rfl, q_5⟩ | ⟨rfl, q_5⟩
    ·
      refine wp_ifn (by decide) ?_
      have n_6 : (0 : Int32).toInt = 0 := by decide
      refine wp_bd1 (sf_X9_whereOf hN h_4 h_5 h_6 h_7 (by omega) (by omega) (by omega) (by omega)) (fun r_7 _ => ?_)
      exact wp_so1 trivial
    ·
      refine wp_ifp (by decide) ?_
      exact wp_so1 trivial
  ·
    refine wp_ifp (by decide) ?_
    exact wp_so1 trivial

theorem uf_X9_isPile (N : Nat) (x1 : Int32) (x2 : Int32) (v_shapeRows : List Int32) (v_shapeColumns : List Int32) : fX9_isPile N x1 x2 v_shapeRows v_shapeColumns = if x2 < 0 then
    (some (false))
    else (mm_ck (mm_nz (10 : Int32)) (mm_ck (mm_inb x1 v_shapeRows.length) (if (mm_ig v_shapeRows x1) ≤ (x2 / (10 : Int32)) then
    (some (false))
    else (mm_ck (mm_nz (10 : Int32)) (mm_ck (mm_inb x1 v_shapeColumns.length) (if (mm_ig v_shapeColumns x1) ≤ (mm_rem x2 (10 : Int32)) then
    (some (false))
    else (some (true)))))))) := rfl

set_option maxHeartbeats 4000000 in
set_option maxRecDepth 20000 in
theorem sf_X9_isPile {N : Nat} (hN : 700 ≤ N) {x1 : Int32} {x2 : Int32} {v_shapeRows : List Int32} {v_shapeColumns : List Int32} (h_0 : v_shapeRows.length = 6) (h_1 : v_shapeColumns.length = 6) (h_2 : 0 ≤ x1.toInt) (h_3 : x1.toInt ≤ 5) : wp (fX9_isPile N x1 x2 v_shapeRows v_shapeColumns) (fun (r : Bool) => True) := by
  refine wp_of (uf_X9_isPile _ _ _ _ _) ?_
  have n_2 : (0 : Int32).toInt = 0 := by decide
  refine wp_if (fun c_1 => ?_) (fun c_1 => ?_)
  ·
    have dc_1 := i_lt c_1
    exact wp_so1 trivial
  ·
    have dc_1 := i_nlt c_1
    have n_3 : (10 : Int32).toInt = 10 := by decide
    refine wp_ck (i_nz (by omega)) ?_
    refine wp_ck (i_inb (by omega) (by omega)) ?_
    generalize hz_z : (x2 / (10 : Int32)) = z
    have e_5 := i_divL (c := 10) (by decide) (by decide) hz_z
    refine wp_if (fun c_4 => ?_) (fun c_4 => ?_)
    ·
      have dc_4 := i_le c_4
      exact wp_so1 trivial
    ·
      have dc_4 := i_nle c_4
      refine wp_ck (i_nz (by omega)) ?_
      refine wp_ck (i_inb (by omega) (by omega)) ?_
      generalize hz_z__7 : (mm_rem x2 (10 : Int32)) = z__7
      have e_8 := i_remL (c := 10) (by decide) (by decide) hz_z__7
      refine wp_if (fun c_6 => ?_) (fun c_6 => ?_)
      ·
        have dc_6 := i_le c_6
        exact wp_so1 trivial
      ·
        have dc_6 := i_nle c_6
        exact wp_so1 trivial

theorem uf_X9_pile (N : Nat) (x1 : Int32) (x2 : Int32) (v_rowsOf : Int32) (v_columnsOf : Int32) (v_shapeRows : List Int32) (v_shapeColumns : List Int32) (v_row : List Int32) (v_column : List Int32) (v_below : List Int32) : fX9_pile N x1 x2 v_rowsOf v_columnsOf v_shapeRows v_shapeColumns v_row v_column v_below = mm_bd1 (fX9_isPile N (0 : Int32) x1 v_shapeRows v_shapeColumns) (fun (r_1 : Bool) =>
    if r_1 = false then
    (some ((-1 : Int32)))
    else (mm_ck (mm_nz (10 : Int32)) (mm_ck (mm_nz (10 : Int32)) (mm_bd1 (fX9_sizeAt N (0 : Int32) (x1 / (10 : Int32)) (mm_rem x1 (10 : Int32)) v_rowsOf v_columnsOf v_row v_column) (fun (r_6 : Int32) =>
    if x2 = (-2 : Int32) then
    (some (r_6))
    else (if x2 = (-1 : Int32) then
    (fX9_pile_45 N x1 r_6 (r_6 - (1 : Int32)) v_rowsOf v_columnsOf v_shapeRows v_shapeColumns v_row v_column v_below)
    else (fX9_pile_45 N x1 r_6 x2 v_rowsOf v_columnsOf v_shapeRows v_shapeColumns v_row v_column v_below))))))) := rfl

theorem uf_X9_pile_45 (N : Nat) (x1 : Int32) (x3 : Int32) (s0 : Int32) (v_rowsOf : Int32) (v_columnsOf : Int32) (v_shapeRows : List Int32) (v_shapeColumns : List Int32) (v_row : List Int32) (v_column : List Int32) (v_below : List Int32) : fX9_pile_45 N x1 x3 s0 v_rowsOf v_columnsOf v_shapeRows v_shapeColumns v_row v_column v_below = mm_bd1 (fX9_within N ((s0).toInt64) (0 : Int64) ((x3 - (1 : Int32)).toInt64)) (fun (r_10 : Bool) =>
    if r_10 = false then
    (some ((-1 : Int32)))
    else (mm_ck (mm_nz (10 : Int32)) (mm_ck (mm_nz (10 : Int32)) (mm_bd1 (fX9_fieldAt N (0 : Int32) (x1 / (10 : Int32)) (mm_rem x1 (10 : Int32)) s0 v_rowsOf v_columnsOf v_row v_column v_below) (fun (r_15 : Int32) =>
    some (r_15)))))) := rfl

set_option maxHeartbeats 4000000 in
set_option maxRecDepth 20000 in
theorem sf_X9_pile {N : Nat} (hN : 700 ≤ N) {x1 : Int32} {x2 : Int32} {v_rowsOf : Int32} {v_columnsOf : Int32} {v_shapeRows : List Int32} {v_shapeColumns : List Int32} {v_row : List Int32} {v_column : List Int32} {v_below : List Int32} (h_0 : 1 ≤ v_rowsOf.toInt) (h_1 : v_rowsOf.toInt ≤ 4) (h_2 : 1 ≤ v_columnsOf.toInt) (h_3 : v_columnsOf.toInt ≤ 8) (h_4 : v_shapeRows.length = 6) (h_5 : v_shapeColumns.length = 6) (h_6 : v_row.length = 192) (h_7 : v_column.length = 192) (h_8 : v_below.length = 192) : wp (fX9_pile N x1 x2 v_rowsOf v_columnsOf v_shapeRows v_shapeColumns v_row v_column v_below) (fun (r : Int32) => True) := by
  refine wp_of (uf_X9_pile _ _ _ _ _ _ _ _ _ _) ?_
  have n_1 : (0 : Int32).toInt = 0 := by decide
  refine wp_bd1 (sf_X9_isPile hN h_4 h_5 (by omega) (by omega)) (fun r_1 _ => ?_)
  refine wp_if (fun c_2 => ?_) (fun c_2 => ?_)
  ·
    exact wp_so1 trivial
  ·
    have n_3 : (10 : Int32).toInt = 10 := by decide
    refine wp_ck (i_nz (by omega)) ?_
    refine wp_ck (i_nz (by omega)) ?_
    refine wp_bd1 (sf_X9_sizeAt hN h_0 h_1 h_2 h_3 h_6 h_7 (by omega) (by omega)) (fun r_6 _ => ?_)
    have n_5 : (-2 : Int32).toInt = -2 := by decide
    refine wp_if (fun c_4 => ?_) (fun c_4 => ?_)
    ·
      have dc_4 := i_eq c_4
      exact wp_so1 trivial
    ·
      have dc_4 := i_ne c_4
      have n_7 : (-1 : Int32).toInt = -1 := by decide
      refine wp_if (fun c_6 => ?_) (fun c_6 => ?_)
      ·
        have dc_6 := i_eq c_6
        refine wp_of (uf_X9_pile_45 _ _ _ _ _ _ _ _ _ _ _) ?_
        have n_8 : (1 : Int32).toInt = 1 := by decide
        generalize hz_z : (r_6 - (1 : Int32)) = z
        first | have e_9 := i_subE hz_z (by omega) (by omega) | obtain ⟨k_9, e_9, e1_9, e2_9⟩ := i_subY hz_z
        have n_10 := i_64 z
        have n_11 : (0 : Int64).toInt = 0 := by decide
        refine wp_bd1 (sf_X9_within hN ) (fun r_10 q_12 => ?_)
        rcases q_12 with ⟨rfl, q_12⟩ | ⟨rfl, q_12⟩
        ·
          refine wp_ifn (by decide) ?_
          refine wp_ck (i_nz (by omega)) ?_
          refine wp_ck (i_nz (by omega)) ?_
          refine wp_bd1 (sf_X9_fieldAt hN h_0 h_1 h_2 h_3 h_6 h_7 h_8 (by omega) (by omega)) (fun r_15 _ => ?_)
          exact wp_so1 trivial
        ·
          refine wp_ifp (by decide) ?_
          exact wp_so1 trivial
      ·
        have dc_6 := i_ne c_6
        refine wp_of (uf_X9_pile_45 _ _ _ _ _ _ _ _ _ _ _) ?_
        have n_13 := i_64 x2
        have n_14 : (0 : Int64).toInt = 0 := by decide
        have n_15 : (1 : Int32).toInt = 1 := by decide
        generalize hz_z__16 : (r_6 - (1 : Int32)) = z__16
        first | have e_17 := i_subE hz_z__16 (by omega) (by omega) | obtain ⟨k_17, e_17, e1_17, e2_17⟩ := i_subY hz_z__16
        have n_18 := i_64 z__16
        refine wp_bd1 (sf_X9_within hN ) (fun r_10__19 q_20 => ?_)
        rcases q_20 with ⟨rfl, q_20⟩ | ⟨rfl, q_20⟩
        ·
          refine wp_ifn (by decide) ?_
          refine wp_ck (i_nz (by omega)) ?_
          refine wp_ck (i_nz (by omega)) ?_
          refine wp_bd1 (sf_X9_fieldAt hN h_0 h_1 h_2 h_3 h_6 h_7 h_8 (by omega) (by omega)) (fun r_15__21 _ => ?_)
          exact wp_so1 trivial
        ·
          refine wp_ifp (by decide) ?_
          exact wp_so1 trivial

theorem uf_X9_tornNow_4 (N : Nat) (n : Nat) (x1 : Int32) (x2 : Int32) (x3 : Int32) (v_rowsOf : Int32) (v_columnsOf : Int32) (v_limit : List Int32) (v_worn : List Int32) : fX9_tornNow_4 N (n + 1) x1 x2 x3 v_rowsOf v_columnsOf v_limit v_worn = 
    if (64 : Int32) ≤ x3 then
    (some (x2))
    else (mm_bd1 (fX9_isCrease N x3 v_rowsOf v_columnsOf) (fun (r_2 : Bool) =>
    if r_2 = false then
    (fX9_tornNow_43 N (fX9_tornNow_4 N n) x1 x3 x2 v_rowsOf v_columnsOf v_limit v_worn)
    else (mm_ck (mm_inb (((64 : Int32) * x1) + x3) v_worn.length) (mm_ck (mm_inb (0 : Int32) v_limit.length) (if (mm_ig v_worn (((64 : Int32) * x1) + x3)) < (mm_ig v_limit (0 : Int32)) then
    (fX9_tornNow_43 N (fX9_tornNow_4 N n) x1 x3 x2 v_rowsOf v_columnsOf v_limit v_worn)
    else (fX9_tornNow_44 N (fX9_tornNow_4 N n) x1 x3 (1 : Int32) x2 v_rowsOf v_columnsOf v_limit v_worn)))))) := rfl

theorem uf_X9_tornNow_43 (N : Nat) (k_4 : Int32 → Int32 → Int32 → Int32 → Int32 → List Int32 → List Int32 → Option (Int32)) (x1 : Int32) (x3 : Int32) (s0 : Int32) (v_rowsOf : Int32) (v_columnsOf : Int32) (v_limit : List Int32) (v_worn : List Int32) : fX9_tornNow_43 N k_4 x1 x3 s0 v_rowsOf v_columnsOf v_limit v_worn = fX9_tornNow_44 N k_4 x1 x3 (0 : Int32) s0 v_rowsOf v_columnsOf v_limit v_worn := rfl

theorem uf_X9_tornNow_44 (N : Nat) (k_4 : Int32 → Int32 → Int32 → Int32 → Int32 → List Int32 → List Int32 → Option (Int32)) (x1 : Int32) (x3 : Int32) (s0 : Int32) (s1 : Int32) (v_rowsOf : Int32) (v_columnsOf : Int32) (v_limit : List Int32) (v_worn : List Int32) : fX9_tornNow_44 N k_4 x1 x3 s0 s1 v_rowsOf v_columnsOf v_limit v_worn = mm_nm ((s1 + s0)) (fun (y_8 : Int32) =>
    mm_nm (x3 + (1 : Int32)) (fun (y_9 : Int32) =>
    k_4 x1 y_8 y_9 v_rowsOf v_columnsOf v_limit v_worn)) := rfl

set_option maxHeartbeats 4000000 in
set_option maxRecDepth 20000 in
theorem sf_X9_tornNow_4 {N : Nat} (hN : 700 ≤ N)  : ∀ (n : Nat) (x1 : Int32) (x2 : Int32) (x3 : Int32) (v_rowsOf : Int32) (v_columnsOf : Int32) (v_limit : List Int32) (v_worn : List Int32), 1 ≤ v_rowsOf.toInt → v_rowsOf.toInt ≤ 4 → 1 ≤ v_columnsOf.toInt → v_columnsOf.toInt ≤ 8 → v_limit.length = 1 → v_worn.length = 384 → 0 ≤ x1.toInt → x1.toInt ≤ 5 → 0 ≤ x3.toInt → x3.toInt ≤ 64 → (64 - x3.toInt).toNat < n → wp (fX9_tornNow_4 N n x1 x2 x3 v_rowsOf v_columnsOf v_limit v_worn) (fun (r : Int32) => True) := by
  intro n
  induction n with
  | zero =>
    intro x1 x2 x3 v_rowsOf v_columnsOf v_limit v_worn h_0 h_1 h_2 h_3 h_4 h_5 h_6 h_7 h_8 h_9 hm
    exact absurd hm (by omega)
  | succ n ih =>
    intro x1 x2 x3 v_rowsOf v_columnsOf v_limit v_worn h_0 h_1 h_2 h_3 h_4 h_5 h_6 h_7 h_8 h_9 hm
    refine wp_of (uf_X9_tornNow_4 _ _ _ _ _ _ _ _ _) ?_
    have n_2 : (64 : Int32).toInt = 64 := by decide
    refine wp_if (fun c_1 => ?_) (fun c_1 => ?_)
    ·
      have dc_1 := i_le c_1
      exact wp_so1 trivial
    ·
      have dc_1 := i_nle c_1
      refine wp_bd1 (sf_X9_isCrease hN h_0 h_1 h_2 h_3 h_8) (fun r_2 q_3 => ?_)
      rcases q_3 with ⟨rfl, q_3⟩ | ⟨rfl, q_3⟩
      ·
        refine wp_ifn (by decide) ?_
        generalize hz_z : ((64 : Int32) * x1) = z
        have e_4 := i_mulLE (c := 64) (by decide) hz_z (by omega) (by omega)
        generalize hz_z__5 : (z + x3) = z__5
        have e_6 := i_addE hz_z__5 (by omega) (by omega)
        refine wp_ck (i_inb (by omega) (by omega)) ?_
        have n_7 : (0 : Int32).toInt = 0 := by decide
        refine wp_ck (i_inb (by omega) (by omega)) ?_
        refine wp_if (fun c_8 => ?_) (fun c_8 => ?_)
        ·
          have dc_8 := i_lt c_8
          refine wp_of (uf_X9_tornNow_43 _ _ _ _ _ _ _ _ _) ?_
          refine wp_of (uf_X9_tornNow_44 _ _ _ _ _ _ _ _ _ _) ?_
          refine wp_nm (fun y_8 _ => ?_)
          have n_9 : (1 : Int32).toInt = 1 := by decide
          refine wp_nm (fun y_9 h_y_9 => ?_)
          have e_10 := i_addE h_y_9.symm (by omega) (by omega)
          exact ih _ _ _ _ _ _ _ h_0 h_1 h_2 h_3 h_4 h_5 h_6 h_7 (by omega) (by omega) (by omega)
        ·
          have dc_8 := i_nlt c_8
          refine wp_of (uf_X9_tornNow_44 _ _ _ _ _ _ _ _ _ _) ?_
          refine wp_nm (fun y_8__11 _ => ?_)
          have n_13 : (1 : Int32).toInt = 1 := by decide
          refine wp_nm (fun y_9__12 h_y_9__12 => ?_)
          have e_14 := i_addE h_y_9__12.symm (by omega) (by omega)
          exact ih _ _ _ _ _ _ _ h_0 h_1 h_2 h_3 h_4 h_5 h_6 h_7 (by omega) (by omega) (by omega)
      ·
        refine wp_ifp (by decide) ?_
        refine wp_of (uf_X9_tornNow_43 _ _ _ _ _ _ _ _ _) ?_
        refine wp_of (uf_X9_tornNow_44 _ _ _ _ _ _ _ _ _ _) ?_
        refine wp_nm (fun y_8__15 _ => ?_)
        have n_17 : (1 : Int32).toInt = 1 := by decide
        refine wp_nm (fun y_9__16 h_y_9__16 => ?_)
        have e_18 := i_addE h_y_9__16.symm (by omega) (by omega)
        exact ih _ _ _ _ _ _ _ h_0 h_1 h_2 h_3 h_4 h_5 h_6 h_7 (by omega) (by omega) (by omega)

theorem uf_X9_tornNow (N : Nat) (x1 : Int32) (v_rowsOf : Int32) (v_columnsOf : Int32) (v_limit : List Int32) (v_worn : List Int32) : fX9_tornNow N x1 v_rowsOf v_columnsOf v_limit v_worn = fX9_tornNow_4 N N x1 (0 : Int32) (0 : Int32) v_rowsOf v_columnsOf v_limit v_worn := rfl

set_option maxHeartbeats 4000000 in
set_option maxRecDepth 20000 in
theorem sf_X9_tornNow {N : Nat} (hN : 700 ≤ N) {x1 : Int32} {v_rowsOf : Int32} {v_columnsOf : Int32} {v_limit : List Int32} {v_worn : List Int32} (h_0 : 1 ≤ v_rowsOf.toInt) (h_1 : v_rowsOf.toInt ≤ 4) (h_2 : 1 ≤ v_columnsOf.toInt) (h_3 : v_columnsOf.toInt ≤ 8) (h_4 : v_limit.length = 1) (h_5 : v_worn.length = 384) (h_6 : 0 ≤ x1.toInt) (h_7 : x1.toInt ≤ 5) : wp (fX9_tornNow N x1 v_rowsOf v_columnsOf v_limit v_worn) (fun (r : Int32) => True) := by
  refine wp_of (uf_X9_tornNow _ _ _ _ _ _) ?_
  have n_1 : (0 : Int32).toInt = 0 := by decide
  exact sf_X9_tornNow_4 hN _ _ _ _ _ _ _ _ h_0 h_1 h_2 h_3 h_4 h_5 h_6 h_7 (by omega) (by omega) (by omega)

theorem uf_X9_led (N : Nat) (x1 : Int32) (v_rowsOf : Int32) (v_columnsOf : Int32) (v_folded : Int32) (v_wronged : Int32) (v_limit : List Int32) (v_worn : List Int32) : fX9_led N x1 v_rowsOf v_columnsOf v_folded v_wronged v_limit v_worn = if x1 = 0 then
    (some (v_folded))
    else (if x1 = (1 : Int32) then
    (some (v_wronged))
    else (if x1 = (2 : Int32) then
    (mm_bd1 (fX9_tornNow N (0 : Int32) v_rowsOf v_columnsOf v_limit v_worn) (fun (r_4 : Int32) =>
    some (r_4)))
    else (some ((-1 : Int32))))) := rfl

set_option maxHeartbeats 4000000 in
set_option maxRecDepth 20000 in
theorem sf_X9_led {N : Nat} (hN : 700 ≤ N) {x1 : Int32} {v_rowsOf : Int32} {v_columnsOf : Int32} {v_folded : Int32} {v_wronged : Int32} {v_limit : List Int32} {v_worn : List Int32} (h_0 : 1 ≤ v_rowsOf.toInt) (h_1 : v_rowsOf.toInt ≤ 4) (h_2 : 1 ≤ v_columnsOf.toInt) (h_3 : v_columnsOf.toInt ≤ 8) (h_4 : v_limit.length = 1) (h_5 : v_worn.length = 384) : wp (fX9_led N x1 v_rowsOf v_columnsOf v_folded v_wronged v_limit v_worn) (fun (r : Int32) => True) := by
  refine wp_of (uf_X9_led _ _ _ _ _ _ _ _) ?_
  have n_2 : (0 : Int32).toInt = 0 := by decide
  refine wp_if (fun c_1 => ?_) (fun c_1 => ?_)
  ·
    have dc_1 := i_eq c_1
    exact wp_so1 trivial
  ·
    have dc_1 := i_ne c_1
    have n_4 : (1 : Int32).toInt = 1 := by decide
    refine wp_if (fun c_3 => ?_) (fun c_3 => ?_)
    ·
      have dc_3 := i_eq c_3
      exact wp_so1 trivial
    ·
      have dc_3 := i_ne c_3
      have n_6 : (2 : Int32).toInt = 2 := by decide
      refine wp_if (fun c_5 => ?_) (fun c_5 => ?_)
      ·
        have dc_5 := i_eq c_5
        refine wp_bd1 (sf_X9_tornNow hN h_0 h_1 h_2 h_3 h_4 h_5 (by omega) (by omega)) (fun r_4 _ => ?_)
        exact wp_so1 trivial
      ·
        have dc_5 := i_ne c_5
        exact wp_so1 trivial

theorem uf_X9_plan (N : Nat) (x1 : Int32) (x2 : Int32) (v_planned : Int32) (v_planLine : List Int32) (v_planWay : List Int32) : fX9_plan N x1 x2 v_planned v_planLine v_planWay = if x1 = 0 then
    (some ((0 : Int32), (0 : Int32), v_planLine, v_planWay))
    else (mm_bd1 (fX9_within N ((x1).toInt64) (1 : Int64) (7 : Int64)) (fun (r_2 : Bool) =>
    if r_2 = false then
    (some ((-1 : Int32), v_planned, v_planLine, v_planWay))
    else (mm_bd1 (fX9_within N ((x2).toInt64) (0 : Int64) (7 : Int64)) (fun (r_5 : Bool) =>
    if r_5 = false then
    (some ((-1 : Int32), v_planned, v_planLine, v_planWay))
    else (if v_planned = (12 : Int32) then
    (some ((-3 : Int32), v_planned, v_planLine, v_planWay))
    else (mm_ck (mm_inb v_planned v_planLine.length) (mm_nm (mm_is v_planLine v_planned x1) (fun (l_10 : List Int32) =>
    mm_ck (mm_inb v_planned v_planWay.length) (mm_nm (mm_is v_planWay v_planned x2) (fun (l_12 : List Int32) =>
    mm_nm ((v_planned + (1 : Int32))) (fun (y_13 : Int32) =>
    some (y_13, y_13, l_10, l_12)))))))))))) := rfl

set_option maxHeartbeats 4000000 in
set_option maxRecDepth 20000 in
theorem sf_X9_plan {N : Nat} (hN : 700 ≤ N) {x1 : Int32} {x2 : Int32} {v_planned : Int32} {v_planLine : List Int32} {v_planWay : List Int32} (h_0 : 0 ≤ v_planned.toInt) (h_1 : v_planned.toInt ≤ 12) (h_2 : v_planLine.length = 12) (h_3 : v_planWay.length = 12) : wp (fX9_plan N x1 x2 v_planned v_planLine v_planWay) (cu4 (fun (r : Int32) (wv_planned : Int32) (wv_planLine : List Int32) (wv_planWay : List Int32) => 0 ≤ wv_planned.toInt ∧ wv_planned.toInt ≤ 12 ∧ wv_planLine.length = 12 ∧ wv_planWay.length = 12)) := by
  refine wp_of (uf_X9_plan _ _ _ _ _ _) ?_
  have n_2 : (0 : Int32).toInt = 0 := by decide
  refine wp_if (fun c_1 => ?_) (fun c_1 => ?_)
  ·
    have dc_1 := i_eq c_1
    exact wp_so4 ⟨(by omega), (by omega), h_2, h_3⟩
  ·
    have dc_1 := i_ne c_1
    have n_3 := i_64 x1
    have n_4 : (1 : Int64).toInt = 1 := by decide
    have n_5 : (7 : Int64).toInt = 7 := by decide
    refine wp_bd1 (sf_X9_within hN ) (fun r_2 q_6 => ?_)
    rcases q_6 with ⟨rfl, q_6⟩ | ⟨rfl, q_6⟩
    ·
      refine wp_ifn (by decide) ?_
      have n_7 := i_64 x2
      have n_8 : (0 : Int64).toInt = 0 := by decide
      refine wp_bd1 (sf_X9_within hN ) (fun r_5 q_9 => ?_)
      rcases q_9 with ⟨rfl, q_9⟩ | ⟨rfl, q_9⟩
      ·
        refine wp_ifn (by decide) ?_
        have n_11 : (12 : Int32).toInt = 12 := by decide
        refine wp_if (fun c_10 => ?_) (fun c_10 => ?_)
        ·
          have dc_10 := i_eq c_10
          exact wp_so4 ⟨h_0, h_1, h_2, h_3⟩
        ·
          have dc_10 := i_ne c_10
          refine wp_ck (i_inb (by omega) (by omega)) ?_
          refine wp_nm (fun l_10 h_l_10 => ?_)
          have nl_l_10 : l_10.length = 12 := by rw [h_l_10, is_len]; assumption
          refine wp_ck (i_inb (by omega) (by omega)) ?_
          refine wp_nm (fun l_12 h_l_12 => ?_)
          have nl_l_12 : l_12.length = 12 := by rw [h_l_12, is_len]; assumption
          have n_12 : (1 : Int32).toInt = 1 := by decide
          refine wp_nm (fun y_13 h_y_13 => ?_)
          have e_13 := i_addE h_y_13.symm (by omega) (by omega)
          exact wp_so4 ⟨(by omega), (by omega), nl_l_10, nl_l_12⟩
      ·
        refine wp_ifp (by decide) ?_
        exact wp_so4 ⟨h_0, h_1, h_2, h_3⟩
    ·
      refine wp_ifp (by decide) ?_
      exact wp_so4 ⟨h_0, h_1, h_2, h_3⟩

theorem uf_X9_isShelf (N : Nat) (x0 : Int32) : fX9_isShelf N x0 = mm_bd1 (fX9_within N ((x0).toInt64) (0 : Int64) (5 : Int64)) (fun (r_1 : Bool) =>
    some (r_1)) := rfl

set_option maxHeartbeats 4000000 in
set_option maxRecDepth 20000 in
theorem sf_X9_isShelf {N : Nat} (hN : 700 ≤ N) {x0 : Int32}  : wp (fX9_isShelf N x0) (fun (r : Bool) => ((r = true ∧ 0 ≤ x0.toInt ∧ x0.toInt ≤ 5) ∨ (r = false ∧ True))) := by
  refine wp_of (uf_X9_isShelf _ _) ?_
  have n_1 := i_64 x0
  have n_2 : (0 : Int64).toInt = 0 := by decide
  have n_3 : (5 : Int64).toInt = 5 := by decide
  refine wp_bd1 (sf_X9_within hN ) (fun r_1 q_4 => ?_)
  rcases q_4 with ⟨rfl, q_4⟩ | ⟨rfl, q_4⟩
  ·
    exact wp_so1 (by first | exact Or.inl ⟨rfl, by first | trivial | omega⟩ | exact Or.inr ⟨rfl, by first | trivial | omega⟩)
  ·
    exact wp_so1 (by first | exact Or.inl ⟨rfl, by first | trivial | omega⟩ | exact Or.inr ⟨rfl, by first | trivial | omega⟩)

theorem uf_X9_topOf (N : Nat) (x1 : Int32) (x2 : Int32) (x3 : Int32) (v_rowsOf : Int32) (v_columnsOf : Int32) (v_row : List Int32) (v_column : List Int32) (v_below : List Int32) : fX9_topOf N x1 x2 x3 v_rowsOf v_columnsOf v_row v_column v_below = mm_bd1 (fX9_sizeAt N x1 x2 x3 v_rowsOf v_columnsOf v_row v_column) (fun (r_1 : Int32) =>
    mm_bd1 (fX9_fieldAt N x1 x2 x3 (r_1 - (1 : Int32)) v_rowsOf v_columnsOf v_row v_column v_below) (fun (r_3 : Int32) =>
    some (r_3))) := rfl

set_option maxHeartbeats 4000000 in
set_option maxRecDepth 20000 in
theorem sf_X9_topOf {N : Nat} (hN : 700 ≤ N) {x1 : Int32} {x2 : Int32} {x3 : Int32} {v_rowsOf : Int32} {v_columnsOf : Int32} {v_row : List Int32} {v_column : List Int32} {v_below : List Int32} (h_0 : 1 ≤ v_rowsOf.toInt) (h_1 : v_rowsOf.toInt ≤ 4) (h_2 : 1 ≤ v_columnsOf.toInt) (h_3 : v_columnsOf.toInt ≤ 8) (h_4 : v_row.length = 192) (h_5 : v_column.length = 192) (h_6 : v_below.length = 192) (h_7 : 0 ≤ x1.toInt) (h_8 : x1.toInt ≤ 5) : wp (fX9_topOf N x1 x2 x3 v_rowsOf v_columnsOf v_row v_column v_below) (fun (r : Int32) => True) := by
  refine wp_of (uf_X9_topOf _ _ _ _ _ _ _ _ _) ?_
  refine wp_bd1 (sf_X9_sizeAt hN h_0 h_1 h_2 h_3 h_4 h_5 h_7 h_8) (fun r_1 _ => ?_)
  refine wp_bd1 (sf_X9_fieldAt hN h_0 h_1 h_2 h_3 h_4 h_5 h_6 h_7 h_8) (fun r_3 _ => ?_)
  exact wp_so1 trivial

theorem uf_X9_isOnTop (N : Nat) (x1 : Int32) (x2 : Int32) (v_rowsOf : Int32) (v_columnsOf : Int32) (v_row : List Int32) (v_column : List Int32) (v_below : List Int32) : fX9_isOnTop N x1 x2 v_rowsOf v_columnsOf v_row v_column v_below = mm_ck (mm_inb (((32 : Int32) * x1) + x2) v_row.length) (mm_ck (mm_inb (((32 : Int32) * x1) + x2) v_column.length) (mm_bd1 (fX9_topOf N x1 (mm_ig v_row (((32 : Int32) * x1) + x2)) (mm_ig v_column (((32 : Int32) * x1) + x2)) v_rowsOf v_columnsOf v_row v_column v_below) (fun (r_3 : Int32) =>
    if r_3 = x2 then
    (some (true))
    else (some (false))))) := rfl

set_option maxHeartbeats 4000000 in
set_option maxRecDepth 20000 in
theorem sf_X9_isOnTop {N : Nat} (hN : 700 ≤ N) {x1 : Int32} {x2 : Int32} {v_rowsOf : Int32} {v_columnsOf : Int32} {v_row : List Int32} {v_column : List Int32} {v_below : List Int32} (h_0 : 1 ≤ v_rowsOf.toInt) (h_1 : v_rowsOf.toInt ≤ 4) (h_2 : 1 ≤ v_columnsOf.toInt) (h_3 : v_columnsOf.toInt ≤ 8) (h_4 : v_row.length = 192) (h_5 : v_column.length = 192) (h_6 : v_below.length = 192) (h_7 : 0 ≤ x1.toInt) (h_8 : x1.toInt ≤ 5) (h_9 : 0 ≤ x2.toInt) (h_10 : x2.toInt < 32) : wp (fX9_isOnTop N x1 x2 v_rowsOf v_columnsOf v_row v_column v_below) (fun (r : Bool) => True) := by
  refine wp_of (uf_X9_isOnTop _ _ _ _ _ _ _ _) ?_
  have n_1 : (32 : Int32).toInt = 32 := by decide
  generalize hz_z : ((32 : Int32) * x1) = z
  have e_2 := i_mulLE (c := 32) (by decide) hz_z (by omega) (by omega)
  generalize hz_z__3 : (z + x2) = z__3
  have e_4 := i_addE hz_z__3 (by omega) (by omega)
  refine wp_ck (i_inb (by omega) (by omega)) ?_
  refine wp_ck (i_inb (by omega) (by omega)) ?_
  refine wp_bd1 (sf_X9_topOf hN h_0 h_1 h_2 h_3 h_4 h_5 h_6 h_7 h_8) (fun r_3 _ => ?_)
  refine wp_if (fun c_5 => ?_) (fun c_5 => ?_)
  ·
    have dc_5 := i_eq c_5
    exact wp_so1 trivial
  ·
    have dc_5 := i_ne c_5
    exact wp_so1 trivial

theorem uf_X9_crease (N : Nat) (x1 : Int32) (x2 : Int32) (v_rowsOf : Int32) (v_columnsOf : Int32) (v_limit : List Int32) (v_worn : List Int32) (v_lastBend : List Int32) : fX9_crease N x1 x2 v_rowsOf v_columnsOf v_limit v_worn v_lastBend = if x1 < 0 then
    (some ((-1 : Int32)))
    else (mm_ck (mm_nz (10 : Int32)) (if (1 : Int32) < (mm_rem x1 (10 : Int32)) then
    (some ((-1 : Int32)))
    else (mm_ck (mm_nz (10 : Int32)) (mm_ck (mm_nz (10 : Int32)) (mm_bd1 (fX9_isCrease N (((2 : Int32) * (x1 / (10 : Int32))) + (mm_rem x1 (10 : Int32))) v_rowsOf v_columnsOf) (fun (r_6 : Bool) =>
    if r_6 = false then
    (some ((-1 : Int32)))
    else (mm_bd1 (fX9_within N ((x2).toInt64) (0 : Int64) (2 : Int64)) (fun (r_9 : Bool) =>
    if r_9 = false then
    (some ((-1 : Int32)))
    else (mm_ck (mm_nz (10 : Int32)) (mm_ck (mm_nz (10 : Int32)) (mm_nm ((((2 : Int32) * (x1 / (10 : Int32))) + (mm_rem x1 (10 : Int32)))) (fun (y_14 : Int32) =>
    if x2 = 0 then
    (mm_ck (mm_inb y_14 v_worn.length) (some ((mm_ig v_worn y_14))))
    else (if x2 = (1 : Int32) then
    (mm_ck (mm_inb y_14 v_lastBend.length) (some ((mm_ig v_lastBend y_14))))
    else (mm_ck (mm_inb y_14 v_worn.length) (mm_ck (mm_inb (0 : Int32) v_limit.length) (if (mm_ig v_worn y_14) < (mm_ig v_limit (0 : Int32)) then
    (some ((0 : Int32)))
    else (some ((1 : Int32))))))))))))))))))) := rfl

set_option maxHeartbeats 4000000 in
set_option maxRecDepth 20000 in
theorem sf_X9_crease {N : Nat} (hN : 700 ≤ N) {x1 : Int32} {x2 : Int32} {v_rowsOf : Int32} {v_columnsOf : Int32} {v_limit : List Int32} {v_worn : List Int32} {v_lastBend : List Int32} (h_0 : 1 ≤ v_rowsOf.toInt) (h_1 : v_rowsOf.toInt ≤ 4) (h_2 : 1 ≤ v_columnsOf.toInt) (h_3 : v_columnsOf.toInt ≤ 8) (h_4 : v_limit.length = 1) (h_5 : v_worn.length = 384) (h_6 : v_lastBend.length = 384) : wp (fX9_crease N x1 x2 v_rowsOf v_columnsOf v_limit v_worn v_lastBend) (fun (r : Int32) => True) := by
  have m3 := (i_fl (a := v_rowsOf) (b := v_columnsOf) (by omega) (by omega) (by omega) (by omega)).2
  have hx1 : x1.toInt < 2147483648 := Int32.toInt_lt x1
  have hx2 : x2.toInt < 2147483648 := Int32.toInt_lt x2
  refine wp_of (uf_X9_crease _ _ _ _ _ _ _ _) ?_
  have n_2 : (0 : Int32).toInt = 0 := by decide
  refine wp_if (fun c_1 => ?_) (fun c_1 => ?_)
  ·
    have dc_1 := i_lt c_1
    exact wp_so1 trivial
  ·
    have dc_1 := i_nlt c_1
    have n_3 : (10 : Int32).toInt = 10 := by decide
    refine wp_ck (i_nz (by omega)) ?_
    have n_5 : (1 : Int32).toInt = 1 := by decide
    generalize hz_z : (mm_rem x1 (10 : Int32)) = z
    have e_6 := i_remL (c := 10) (by decide) (by decide) hz_z
    refine wp_if (fun c_4 => ?_) (fun c_4 => ?_)
    ·
      have dc_4 := i_lt c_4
      exact wp_so1 trivial
    ·
      have dc_4 := i_nlt c_4
      refine wp_ck (i_nz (by omega)) ?_
      refine wp_ck (i_nz (by omega)) ?_
      have n_7 : (2 : Int32).toInt = 2 := by decide
      generalize hz_z__8 : (x1 / (10 : Int32)) = z__8
      have e_9 := i_divL (c := 10) (by decide) (by decide) hz_z__8
      generalize hz_z__10 : ((2 : Int32) * z__8) = z__10
      first | have e_11 := i_mulLE (c := 2) (by decide) hz_z__10 (by omega) (by omega) | obtain ⟨k_11, e_11, e1_11, e2_11⟩ := i_mulL (c := 2) (by decide) hz_z__10
      generalize hz_z__12 : (z__10 + z) = z__12
      first | have e_13 := i_addE hz_z__12 (by omega) (by omega) | obtain ⟨k_13, e_13, e1_13, e2_13⟩ := i_addY hz_z__12
      refine wp_bd1 (sf_X9_isCrease hN h_0 h_1 h_2 h_3 (by omega)) (fun r_6 q_14 => ?_)
      rcases q_14 with ⟨rfl, q_14⟩ | ⟨rfl, q_14⟩
      ·
        refine wp_ifn (by decide) ?_
        have n_15 := i_64 x2
        have n_16 : (0 : Int64).toInt = 0 := by decide
        have n_17 : (2 : Int64).toInt = 2 := by decide
        refine wp_bd1 (sf_X9_within hN ) (fun r_9 q_18 => ?_)
        rcases q_18 with ⟨rfl, q_18⟩ | ⟨rfl, q_18⟩
        ·
          refine wp_ifn (by decide) ?_
          refine wp_ck (i_nz (by omega)) ?_
          refine wp_ck (i_nz (by omega)) ?_
          refine wp_nm (fun y_14 h_y_14 => ?_)
          subst h_y_14
          refine wp_if (fun c_19 => ?_) (fun c_19 => ?_)
          ·
            have dc_19 := i_eq c_19
            refine wp_ck (i_inb (by omega) (by omega)) ?_
            exact wp_so1 trivial
          ·
            have dc_19 := i_ne c_19
            refine wp_if (fun c_20 => ?_) (fun c_20 => ?_)
            ·
              have dc_20 := i_eq c_20
              refine wp_ck (i_inb (by omega) (by omega)) ?_
              exact wp_so1 trivial
            ·
              have dc_20 := i_ne c_20
              refine wp_ck (i_inb (by omega) (by omega)) ?_
              refine wp_ck (i_inb (by omega) (by omega)) ?_
              refine wp_if (fun c_21 => ?_) (fun c_21 => ?_)
              ·
                have dc_21 := i_lt c_21
                exact wp_so1 trivial
              ·
                have dc_21 := i_nlt c_21
                exact wp_so1 trivial
        ·
          refine wp_ifp (by decide) ?_
          exact wp_so1 trivial
      ·
        refine wp_ifp (by decide) ?_
        exact wp_so1 trivial
