/-! safe -/
theorem uf_X5_measurePiles_10 (N : Nat) (n : Nat) (x1 : Int32) (v_rows : Int32) (v_cols : Int32) (v_rowOf : List Int32) (v_colOf : List Int32) (v_tall : List Int32) : fX5_measurePiles_10 N (n + 1) x1 v_rows v_cols v_rowOf v_colOf v_tall = 
    mm_bd1 (fX5_fields N v_rows v_cols) (fun (r_3 : Int32) =>
    if r_3 ≤ x1 then
    (some (v_tall))
    else (mm_ck (mm_inb x1 v_rowOf.length) (mm_ck (mm_inb x1 v_colOf.length) (mm_ck (mm_inb (((mm_ig v_rowOf x1) * (8 : Int32)) + (mm_ig v_colOf x1)) v_tall.length) (mm_nm (((mm_ig v_tall (((mm_ig v_rowOf x1) * (8 : Int32)) + (mm_ig v_colOf x1))) + (1 : Int32))) (fun (y_9 : Int32) =>
    mm_ck (mm_inb (((mm_ig v_rowOf x1) * (8 : Int32)) + (mm_ig v_colOf x1)) v_tall.length) (mm_nm (mm_is v_tall (((mm_ig v_rowOf x1) * (8 : Int32)) + (mm_ig v_colOf x1)) y_9) (fun (l_11 : List Int32) =>
    mm_nm (x1 + (1 : Int32)) (fun (y_12 : Int32) =>
    fX5_measurePiles_10 N n y_12 v_rows v_cols v_rowOf v_colOf l_11))))))))) := rfl

set_option maxHeartbeats 4000000 in
set_option maxRecDepth 20000 in
theorem sf_X5_measurePiles_10 {N : Nat} (hN : 700 ≤ N)  : ∀ (n : Nat) (x1 : Int32) (v_rows : Int32) (v_cols : Int32) (v_rowOf : List Int32) (v_colOf : List Int32) (v_tall : List Int32), 1 ≤ v_rows.toInt → v_rows.toInt ≤ 4 → 1 ≤ v_cols.toInt → v_cols.toInt ≤ 8 → v_rowOf.length = 32 → v_colOf.length = 32 → v_tall.length = 32 → zn v_rowOf 0 (v_rows.toInt * v_cols.toInt) 0 4 → zn v_colOf 0 (v_rows.toInt * v_cols.toInt) 0 8 → 0 ≤ x1.toInt → x1.toInt ≤ v_rows.toInt * v_cols.toInt → (v_rows.toInt * v_cols.toInt - x1.toInt).toNat < n → wp (fX5_measurePiles_10 N n x1 v_rows v_cols v_rowOf v_colOf v_tall) (fun (wv_tall : List Int32) => wv_tall.length = 32) := by
  intro n
  induction n with
  | zero =>
    intro x1 v_rows v_cols v_rowOf v_colOf v_tall h_0 h_1 h_2 h_3 h_4 h_5 h_6 h_7 h_8 h_9 h_10 hm
    exact absurd hm (by omega)
  | succ n ih =>
    intro x1 v_rows v_cols v_rowOf v_colOf v_tall h_0 h_1 h_2 h_3 h_4 h_5 h_6 h_7 h_8 h_9 h_10 hm
    have m3 := (i_fl (a := v_rows) (b := v_cols) (by omega) (by omega) (by omega) (by omega)).2
    refine wp_of (uf_X5_measurePiles_10 _ _ _ _ _ _ _ _) ?_
    refine wp_bd1 (sf_X5_fields hN h_0 h_1 h_2 h_3) (fun r_3 ⟨q_1, q_2, q_3⟩ => ?_)
    refine wp_if (fun c_4 => ?_) (fun c_4 => ?_)
    ·
      have dc_4 := i_le c_4
      exact wp_so1 h_6
    ·
      have dc_4 := i_nle c_4
      refine wp_ck (i_inb (by omega) (by omega)) ?_
      refine wp_ck (i_inb (by omega) (by omega)) ?_
      obtain ⟨e_5, e1_5⟩ := zn_get h_7 (i := x1) (by omega) (by omega) (by omega) (by omega)
      have n_6 : (8 : Int32).toInt = 8 := by decide
      generalize hz_z : ((mm_ig v_rowOf x1) * (8 : Int32)) = z
      have e_7 := i_mulRE (c := 8) (by decide) hz_z (by omega) (by omega)
      obtain ⟨e_8, e1_8⟩ := zn_get h_8 (i := x1) (by omega) (by omega) (by omega) (by omega)
      generalize hz_z__9 : (z + (mm_ig v_colOf x1)) = z__9
      have e_10 := i_addE hz_z__9 (by omega) (by omega)
      refine wp_ck (i_inb (by omega) (by omega)) ?_
      refine wp_nm (fun y_9 _ => ?_)
      refine wp_ck (i_inb (by omega) (by omega)) ?_
      refine wp_nm (fun l_11 h_l_11 => ?_)
      have nl_l_11 : l_11.length = 32 := by rw [h_l_11, is_len]; assumption
      have n_11 : (1 : Int32).toInt = 1 := by decide
      refine wp_nm (fun y_12 h_y_12 => ?_)
      have e_12 := i_addE h_y_12.symm (by omega) (by omega)
      exact ih _ _ _ _ _ _ h_0 h_1 h_2 h_3 h_4 h_5 nl_l_11 h_7 h_8 (by omega) (by omega) (by omega)

theorem uf_X5_measurePiles (N : Nat) (v_rows : Int32) (v_cols : Int32) (v_rowOf : List Int32) (v_colOf : List Int32) (v_tall : List Int32) : fX5_measurePiles N v_rows v_cols v_rowOf v_colOf v_tall = mm_bd1 (fJ7_fill_53178 N (0 : Int32) v_tall) (fun (w_1 : List Int32) =>
    fX5_measurePiles_10 N N (0 : Int32) v_rows v_cols v_rowOf v_colOf w_1) := rfl

set_option maxHeartbeats 4000000 in
set_option maxRecDepth 20000 in
theorem sf_X5_measurePiles {N : Nat} (hN : 700 ≤ N) {v_rows : Int32} {v_cols : Int32} {v_rowOf : List Int32} {v_colOf : List Int32} {v_tall : List Int32} (h_0 : 1 ≤ v_rows.toInt) (h_1 : v_rows.toInt ≤ 4) (h_2 : 1 ≤ v_cols.toInt) (h_3 : v_cols.toInt ≤ 8) (h_4 : v_rowOf.length = 32) (h_5 : v_colOf.length = 32) (h_6 : v_tall.length = 32) (h_7 : zn v_rowOf 0 (v_rows.toInt * v_cols.toInt) 0 4) (h_8 : zn v_colOf 0 (v_rows.toInt * v_cols.toInt) 0 8) : wp (fX5_measurePiles N v_rows v_cols v_rowOf v_colOf v_tall) (fun (wv_tall : List Int32) => wv_tall.length = 32) := by
  have m3 := (i_fl (a := v_rows) (b := v_cols) (by omega) (by omega) (by omega) (by omega)).2
  refine wp_of (uf_X5_measurePiles _ _ _ _ _ _) ?_
  refine wp_bd1 (sf_J7_fill_53178 hN (by first | assumption | omega | decide) (by first | assumption | omega | decide)) (fun w_1 q_1 => ?_)
  have nl_w_1 : w_1.length = 32 := by omega
  have n_2 : (0 : Int32).toInt = 0 := by decide
  exact sf_X5_measurePiles_10 hN _ _ _ _ _ _ _ h_0 h_1 h_2 h_3 h_4 h_5 nl_w_1 h_7 h_8 (by omega) (by omega) (by omega)

theorem uf_X5_tallAt (N : Nat) (x1 : Int32) (x2 : Int32) (x3 : Int32) (v_high : Int32) (v_wide : Int32) (v_tall : List Int32) : fX5_tallAt N x1 x2 x3 v_high v_wide v_tall = if x1 < 0 then
    (some ((0 : Int32)))
    else (mm_bd1 (fX5_span N x3 v_high v_wide) (fun (r_2 : Int32) =>
    if x1 < r_2 then
    (if (4 : Int32) ≤ x3 then
    (mm_ck (mm_inb ((x1 * (8 : Int32)) + x2) v_tall.length) (some ((mm_ig v_tall ((x1 * (8 : Int32)) + x2)))))
    else (mm_ck (mm_inb ((x2 * (8 : Int32)) + x1) v_tall.length) (some ((mm_ig v_tall ((x2 * (8 : Int32)) + x1))))))
    else (some ((0 : Int32))))) := rfl

set_option maxHeartbeats 4000000 in
set_option maxRecDepth 20000 in
theorem sf_X5_tallAt {N : Nat} (hN : 700 ≤ N) {x1 : Int32} {x2 : Int32} {x3 : Int32} {v_high : Int32} {v_wide : Int32} {v_tall : List Int32} (h_0 : 1 ≤ v_high.toInt) (h_1 : v_high.toInt ≤ 4) (h_2 : 1 ≤ v_wide.toInt) (h_3 : v_wide.toInt ≤ 8) (h_4 : v_tall.length = 32) (h_5 : 0 ≤ x2.toInt) (h_6 : (x3.toInt < 4 → x2.toInt < 4)) (h_7 : (4 ≤ x3.toInt → x2.toInt < 8)) : wp (fX5_tallAt N x1 x2 x3 v_high v_wide v_tall) (fun (r : Int32) => True) := by
  refine wp_of (uf_X5_tallAt _ _ _ _ _ _ _) ?_
  have n_2 : (0 : Int32).toInt = 0 := by decide
  refine wp_if (fun c_1 => ?_) (fun c_1 => ?_)
  ·
    have dc_1 := i_lt c_1
    exact wp_so1 trivial
  ·
    have dc_1 := i_nlt c_1
    refine wp_in1 ?_
    refine wp_of (uf_X5_span _ _ _ _) ?_
    have n_4 : (4 : Int32).toInt = 4 := by decide
    refine wp_if (fun c_3 => ?_) (fun c_3 => ?_)
    ·
      have dc_3 := i_le c_3
      refine wp_so1 ?_
      show wp _ _
      refine wp_if (fun c_5 => ?_) (fun c_5 => ?_)
      ·
        have dc_5 := i_lt c_5
        refine wp_ifp c_3 ?_
        have n_6 : (8 : Int32).toInt = 8 := by decide
        generalize hz_z : (x1 * (8 : Int32)) = z
        first | have e_7 := i_mulRE (c := 8) (by decide) hz_z (by omega) (by omega) | obtain ⟨k_7, e_7, e1_7, e2_7⟩ := i_mulR (c := 8) (by decide) hz_z
        generalize hz_z__8 : (z + x2) = z__8
        first | have e_9 := i_addE hz_z__8 (by omega) (by omega) | obtain ⟨k_9, e_9, e1_9, e2_9⟩ := i_addY hz_z__8
        refine wp_ck (i_inb (by omega) (by omega)) ?_
        exact wp_so1 trivial
      ·
        have dc_5 := i_nlt c_5
        exact wp_so1 trivial
    ·
      have dc_3 := i_nle c_3
      refine wp_so1 ?_
      show wp _ _
      refine wp_if (fun c_10 => ?_) (fun c_10 => ?_)
      ·
        have dc_10 := i_lt c_10
        refine wp_ifn c_3 ?_
        have n_11 : (8 : Int32).toInt = 8 := by decide
        generalize hz_z__12 : (x2 * (8 : Int32)) = z__12
        first | have e_13 := i_mulRE (c := 8) (by decide) hz_z__12 (by omega) (by omega) | obtain ⟨k_13, e_13, e1_13, e2_13⟩ := i_mulR (c := 8) (by decide) hz_z__12
        generalize hz_z__14 : (z__12 + x1) = z__14
        first | have e_15 := i_addE hz_z__14 (by omega) (by omega) | obtain ⟨k_15, e_15, e1_15, e2_15⟩ := i_addY hz_z__14
        refine wp_ck (i_inb (by omega) (by omega)) ?_
        exact wp_so1 trivial
      ·
        have dc_10 := i_nlt c_10
        exact wp_so1 trivial

theorem uf_X5_narrow (N : Nat) (x1 : Int32) (x2 : Int32) (v_high : Int32) (v_wide : Int32) : fX5_narrow N x1 x2 v_high v_wide = if (4 : Int32) ≤ x1 then
    (some (x2, v_wide))
    else (some (v_high, x2)) := rfl

theorem uf_X5_setAlong (N : Nat) (x1 : Int32) (x2 : Int32) (x3 : Int32) (v_rowOf : List Int32) (v_colOf : List Int32) : fX5_setAlong N x1 x2 x3 v_rowOf v_colOf = if (4 : Int32) ≤ x2 then
    (mm_ck (mm_inb x1 v_rowOf.length) (mm_nm (mm_is v_rowOf x1 x3) (fun (l_3 : List Int32) =>
    some (l_3, v_colOf))))
    else (mm_ck (mm_inb x1 v_colOf.length) (mm_nm (mm_is v_colOf x1 x3) (fun (l_5 : List Int32) =>
    some (v_rowOf, l_5)))) := rfl

theorem uf_X5_spanBehind (N : Nat) (x1 : Int32) (x2 : Int32) (v_high : Int32) (v_wide : Int32) : fX5_spanBehind N x1 x2 v_high v_wide = mm_bd1 (fX5_span N x2 v_high v_wide) (fun (r_1 : Int32) =>
    some ((mm_max x1 (r_1 - x1)))) := rfl

theorem uf_X5_turn_144 (N : Nat) (k_35 : Int32 → Int32 → Int32 → Int32 → Int32 → Int32 → Int32 → Int32 → List Int32 → List Int32 → List Int32 → List Int32 → List Int32 → Option (Int32 × Int32 × List Int32 × List Int32 × List Int32 × List Int32 × List Int32)) (x1 : Int32) (x2 : Int32) (x4 : Int32) (x5 : Int32) (x7 : Int32) (s0 : Int32) (s1 : Int32) (s2 : Int32) (v_rows : Int32) (v_cols : Int32) (v_high : Int32) (v_wide : Int32) (v_rowOf : List Int32) (v_colOf : List Int32) (v_below : List Int32) (v_face : List Int32) (v_tall : List Int32) : fX5_turn_144 N k_35 x1 x2 x4 x5 x7 s0 s1 s2 v_rows v_cols v_high v_wide v_rowOf v_colOf v_below v_face v_tall = mm_nm ((s1 + s0)) (fun (y_42 : Int32) =>
    mm_ck (mm_inb s2 v_below.length) (mm_nm (mm_is v_below s2 y_42) (fun (l_44 : List Int32) =>
    mm_ck (mm_inb x5 v_face.length) (mm_nm (((1 : Int32) - (mm_ig v_face x5))) (fun (y_46 : Int32) =>
    mm_ck (mm_inb x5 v_face.length) (mm_nm (mm_is v_face x5 y_46) (fun (l_48 : List Int32) =>
    fX5_turn_188 N k_35 x1 x2 x4 x5 x7 v_rows v_cols v_high v_wide v_rowOf v_colOf l_44 l_48 v_tall))))))) := rfl

theorem uf_X5_turn_188 (N : Nat) (k_35 : Int32 → Int32 → Int32 → Int32 → Int32 → Int32 → Int32 → Int32 → List Int32 → List Int32 → List Int32 → List Int32 → List Int32 → Option (Int32 × Int32 × List Int32 × List Int32 × List Int32 × List Int32 × List Int32)) (x1 : Int32) (x2 : Int32) (x4 : Int32) (x5 : Int32) (x6 : Int32) (v_rows : Int32) (v_cols : Int32) (v_high : Int32) (v_wide : Int32) (v_rowOf : List Int32) (v_colOf : List Int32) (v_below : List Int32) (v_face : List Int32) (v_tall : List Int32) : fX5_turn_188 N k_35 x1 x2 x4 x5 x6 v_rows v_cols v_high v_wide v_rowOf v_colOf v_below v_face v_tall = mm_bd2 (fX5_setAlong N x5 x2 (x6 - x4) v_rowOf v_colOf) (fun (w_49 : List Int32) (w_50 : List Int32) =>
    mm_nm (x5 + (1 : Int32)) (fun (y_52 : Int32) =>
    k_35 x1 x2 x4 y_52 v_rows v_cols v_high v_wide w_49 w_50 v_below v_face v_tall)) := rfl

theorem uf_X5_turn_35 (N : Nat) (n : Nat) (x1 : Int32) (x2 : Int32) (x4 : Int32) (x5 : Int32) (v_rows : Int32) (v_cols : Int32) (v_high : Int32) (v_wide : Int32) (v_rowOf : List Int32) (v_colOf : List Int32) (v_below : List Int32) (v_face : List Int32) (v_tall : List Int32) : fX5_turn_35 N (n + 1) x1 x2 x4 x5 v_rows v_cols v_high v_wide v_rowOf v_colOf v_below v_face v_tall = 
    mm_bd1 (fX5_fields N v_rows v_cols) (fun (r_8 : Int32) =>
    if r_8 ≤ x5 then
    (mm_bd1 (fX5_spanBehind N x1 x2 v_high v_wide) (fun (r_11 : Int32) =>
    mm_bd2 (fX5_narrow N x2 r_11 v_high v_wide) (fun (w_13 : Int32) (w_14 : Int32) =>
    some (w_13, w_14, v_rowOf, v_colOf, v_below, v_face, v_tall))))
    else (mm_bd1 (fX5_along N x5 x2 v_rowOf v_colOf) (fun (r_16 : Int32) =>
    mm_nm (((((2 : Int32) * x1) - (1 : Int32)) - r_16)) (fun (y_18 : Int32) =>
    mm_bd1 (fX5_across N x5 x2 v_rowOf v_colOf) (fun (r_19 : Int32) =>
    mm_bd1 (fX5_tallAt N y_18 r_19 x2 v_high v_wide v_tall) (fun (r_21 : Int32) =>
    if x1 ≤ r_16 then
    (fX5_turn_90 N (fX5_turn_35 N n) x1 x2 x4 x5 r_16 y_18 r_21 (0 : Int32) v_rows v_cols v_high v_wide v_rowOf v_colOf v_below v_face v_tall)
    else (fX5_turn_90 N (fX5_turn_35 N n) x1 x2 x4 x5 r_16 y_18 r_21 (1 : Int32) v_rows v_cols v_high v_wide v_rowOf v_colOf v_below v_face v_tall))))))) := rfl

theorem uf_X5_turn_90 (N : Nat) (k_35 : Int32 → Int32 → Int32 → Int32 → Int32 → Int32 → Int32 → Int32 → List Int32 → List Int32 → List Int32 → List Int32 → List Int32 → Option (Int32 × Int32 × List Int32 × List Int32 × List Int32 × List Int32 × List Int32)) (x1 : Int32) (x2 : Int32) (x4 : Int32) (x5 : Int32) (x6 : Int32) (x7 : Int32) (x8 : Int32) (s0 : Int32) (v_rows : Int32) (v_cols : Int32) (v_high : Int32) (v_wide : Int32) (v_rowOf : List Int32) (v_colOf : List Int32) (v_below : List Int32) (v_face : List Int32) (v_tall : List Int32) : fX5_turn_90 N k_35 x1 x2 x4 x5 x6 x7 x8 s0 v_rows v_cols v_high v_wide v_rowOf v_colOf v_below v_face v_tall = mm_bd1 (fX5_comesFromStart N x2) (fun (r_24 : Bool) =>
    if s0 = (mm_b r_24) then
    (mm_bd1 (fX5_across N x5 x2 v_rowOf v_colOf) (fun (r_34 : Int32) =>
    mm_bd1 (fX5_tallAt N x6 r_34 x2 v_high v_wide v_tall) (fun (r_36 : Int32) =>
    mm_ck (mm_inb x5 v_below.length) (mm_bd1 (fX5_comesOver N x2) (fun (r_39 : Bool) =>
    if r_39 = false then
    (fX5_turn_144 N k_35 x1 x2 x4 x5 x7 (0 : Int32) ((r_36 - (1 : Int32)) - (mm_ig v_below x5)) x5 v_rows v_cols v_high v_wide v_rowOf v_colOf v_below v_face v_tall)
    else (fX5_turn_144 N k_35 x1 x2 x4 x5 x7 x8 ((r_36 - (1 : Int32)) - (mm_ig v_below x5)) x5 v_rows v_cols v_high v_wide v_rowOf v_colOf v_below v_face v_tall))))))
    else (mm_bd1 (fX5_comesOver N x2) (fun (r_27 : Bool) =>
    if r_27 = false then
    (mm_ck (mm_inb x5 v_below.length) (mm_nm (((mm_ig v_below x5) + x8)) (fun (y_31 : Int32) =>
    mm_ck (mm_inb x5 v_below.length) (mm_nm (mm_is v_below x5 y_31) (fun (l_33 : List Int32) =>
    fX5_turn_188 N k_35 x1 x2 x4 x5 x6 v_rows v_cols v_high v_wide v_rowOf v_colOf l_33 v_face v_tall)))))
    else (fX5_turn_188 N k_35 x1 x2 x4 x5 x6 v_rows v_cols v_high v_wide v_rowOf v_colOf v_below v_face v_tall)))) := rfl

set_option maxHeartbeats 4000000 in
set_option maxRecDepth 20000 in
theorem sf_X5_turn_35_rs {N : Nat} (hN : 700 ≤ N)  : ∀ (n : Nat) (x1 : Int32) (x2 : Int32) (x4 : Int32) (x5 : Int32) (v_rows : Int32) (v_cols : Int32) (v_high : Int32) (v_wide : Int32) (v_rowOf : List Int32) (v_colOf : List Int32) (v_below : List Int32) (v_face : List Int32) (v_tall : List Int32), 1 ≤ v_rows.toInt → v_rows.toInt ≤ 4 → 1 ≤ v_cols.toInt → v_cols.toInt ≤ 8 → 1 ≤ v_high.toInt → v_high.toInt ≤ 4 → 1 ≤ v_wide.toInt → v_wide.toInt ≤ 8 → v_rowOf.length = 32 → v_colOf.length = 32 → v_below.length = 32 → v_face.length = 32 → v_tall.length = 32 → ((4 : Int32) ≤ x2) → ((x2 &&& (2 : Int32)) = (0 : Int32)) → 1 ≤ x1.toInt → x1.toInt < v_high.toInt → 4 ≤ x2.toInt → x4.toInt = x1.toInt → 0 ≤ x5.toInt → x5.toInt ≤ v_rows.toInt * v_cols.toInt → zn v_colOf 0 (v_rows.toInt * v_cols.toInt) 0 v_wide.toInt → zn v_rowOf 0 x5.toInt 0 (max x1.toInt (v_high.toInt - x1.toInt)) → zn v_rowOf x5.toInt (v_rows.toInt * v_cols.toInt) 0 v_high.toInt → (v_rows.toInt * v_cols.toInt - x5.toInt).toNat < n → wp (fX5_turn_35 N n x1 x2 x4 x5 v_rows v_cols v_high v_wide v_rowOf v_colOf v_below v_face v_tall) (cu7 (fun (wv_high : Int32) (wv_wide : Int32) (wv_rowOf : List Int32) (wv_colOf : List Int32) (wv_below : List Int32) (wv_face : List Int32) (wv_tall : List Int32) => 1 ≤ wv_high.toInt ∧ wv_high.toInt ≤ 4 ∧ 1 ≤ wv_wide.toInt ∧ wv_wide.toInt ≤ 8 ∧ wv_rowOf.length = 32 ∧ wv_colOf.length = 32 ∧ wv_below.length = 32 ∧ wv_face.length = 32 ∧ wv_tall.length = 32 ∧ zn wv_rowOf 0 (v_rows.toInt * v_cols.toInt) 0 wv_high.toInt ∧ zn wv_colOf 0 (v_rows.toInt * v_cols.toInt) 0 wv_wide.toInt)) := by
  intro n
  induction n with
  | zero =>
    intro x1 x2 x4 x5 v_rows v_cols v_high v_wide v_rowOf v_colOf v_below v_face v_tall h_0 h_1 h_2 h_3 h_4 h_5 h_6 h_7 h_8 h_9 h_10 h_11 h_12 h_13 h_14 h_15 h_16 h_17 h_18 h_19 h_20 h_21 h_22 h_23 hm
    exact absurd hm (by omega)
  | succ n ih =>
    intro x1 x2 x4 x5 v_rows v_cols v_high v_wide v_rowOf v_colOf v_below v_face v_tall h_0 h_1 h_2 h_3 h_4 h_5 h_6 h_7 h_8 h_9 h_10 h_11 h_12 h_13 h_14 h_15 h_16 h_17 h_18 h_19 h_20 h_21 h_22 h_23 hm
    have m3 := (i_fl (a := v_rows) (b := v_cols) (by omega) (by omega) (by omega) (by omega)).2
    refine wp_of (uf_X5_turn_35 _ _ _ _ _ _ _ _ _ _ _ _ _ _ _) ?_
    refine wp_bd1 (sf_X5_fields hN h_0 h_1 h_2 h_3) (fun r_8 ⟨q_1, q_2, q_3⟩ => ?_)
    refine wp_if (fun c_4 => ?_) (fun c_4 => ?_)
    ·
      have dc_4 := i_le c_4
      refine wp_in1 ?_
      refine wp_of (uf_X5_spanBehind _ _ _ _ _) ?_
      refine wp_in1 ?_
      refine wp_of (uf_X5_span _ _ _ _) ?_
      refine wp_ifp h_13 ?_
      refine wp_so1 ?_
      show wp _ _
      refine wp_so1 ?_
      show wp _ _
      refine wp_in2 ?_
      refine wp_of (uf_X5_narrow _ _ _ _ _) ?_
      refine wp_ifp h_13 ?_
      refine wp_so2 ?_
      show wp _ _
      generalize hz_z : (v_high - x1) = z
      have e_5 := i_subE hz_z (by omega) (by omega)
      generalize hz_z__6 : (mm_max x1 z) = z__6
      have e_7 := i_maxY hz_z__6
      exact wp_so7 ⟨(by omega), (by omega), h_6, h_7, h_8, h_9, h_10, h_11, h_12, (by first | assumption | exact zn_nil (by omega) | exact zn_sub h_22 (by omega) (by omega) (by omega) (by omega) | exact zn_sub h_23 (by omega) (by omega) (by omega) (by omega) | (exfalso; omega)), h_21⟩
    ·
      have dc_4 := i_nle c_4
      refine wp_in1 ?_
      refine wp_of (uf_X5_along _ _ _ _ _) ?_
      refine wp_ifp h_13 ?_
      refine wp_ck (i_inb (by omega) (by omega)) ?_
      refine wp_so1 ?_
      show wp _ _
      have n_8 : (2 : Int32).toInt = 2 := by decide
      generalize hz_z__9 : ((2 : Int32) * x1) = z__9
      have e_10 := i_mulLE (c := 2) (by decide) hz_z__9 (by omega) (by omega)
      have n_11 : (1 : Int32).toInt = 1 := by decide
      generalize hz_z__12 : (z__9 - (1 : Int32)) = z__12
      have e_13 := i_subE hz_z__12 (by omega) (by omega)
      obtain ⟨e_14, e1_14⟩ := zn_get h_23 (i := x5) (by omega) (by omega) (by omega) (by omega)
      refine wp_nm (fun y_18 h_y_18 => ?_)
      have e_15 := i_subE h_y_18.symm (by omega) (by omega)
      refine wp_in1 ?_
      refine wp_of (uf_X5_across _ _ _ _ _) ?_
      refine wp_ifp h_13 ?_
      refine wp_ck (i_inb (by omega) (by omega)) ?_
      refine wp_so1 ?_
      show wp _ _
      obtain ⟨e_16, e1_16⟩ := zn_get h_21 (i := x5) (by omega) (by omega) (by omega) (by omega)
      refine wp_bd1 (sf_X5_tallAt hN h_4 h_5 h_6 h_7 h_12 (by omega) (by omega) (by omega)) (fun r_21 _ => ?_)
      refine wp_if (fun c_17 => ?_) (fun c_17 => ?_)
      ·
        have dc_17 := i_le c_17
        refine wp_of (uf_X5_turn_90 _ _ _ _ _ _ _ _ _ _ _ _ _ _ _ _ _ _ _) ?_
        refine wp_in1 ?_
        refine wp_of (uf_X5_comesFromStart _ _) ?_
        have n_19 : (0 : Int32).toInt = 0 := by decide
        refine wp_ifp h_14 ?_
        refine wp_so1 ?_
        show wp _ _
        generalize hz_z__21 : (mm_b true) = z__21
        have e_22 : z__21.toInt = 1 := by rw [← hz_z__21]; decide
        refine wp_if (fun c_20 => ?_) (fun c_20 => ?_)
        ·
          have dc_20 := i_eq c_20
          refine wp_in1 ?_
          refine wp_of (uf_X5_across _ _ _ _ _) ?_
          refine wp_ifp h_13 ?_
          refine wp_ck (i_inb (by omega) (by omega)) ?_
          refine wp_so1 ?_
          show wp _ _
          refine wp_bd1 (sf_X5_tallAt hN h_4 h_5 h_6 h_7 h_12 (by omega) (by omega) (by omega)) (fun r_36 _ => ?_)
          refine wp_ck (i_inb (by omega) (by omega)) ?_
          refine wp_in1 ?_
          refine wp_of (uf_X5_comesOver _ _) ?_
          refine wp_if (fun c_23 => ?_) (fun c_23 => ?_)
          ·
            have dc_23 := i_eq c_23
            refine wp_so1 ?_
            show wp _ _
            refine wp_ifn (by decide) ?_
            refine wp_of (uf_X5_turn_144 _ _ _ _ _ _ _ _ _ _ _ _ _ _ _ _ _ _ _) ?_
            refine wp_nm (fun y_42 _ => ?_)
            refine wp_ck (i_inb (by omega) (by omega)) ?_
            refine wp_nm (fun l_44 h_l_44 => ?_)
            have nl_l_44 : l_44.length = 32 := by rw [h_l_44, is_len]; assumption
            refine wp_ck (i_inb (by omega) (by omega)) ?_
            refine wp_nm (fun y_46 _ => ?_)
            refine wp_ck (i_inb (by omega) (by omega)) ?_
            refine wp_nm (fun l_48 h_l_48 => ?_)
            have nl_l_48 : l_48.length = 32 := by rw [h_l_48, is_len]; assumption
            refine wp_of (uf_X5_turn_188 _ _ _ _ _ _ _ _ _ _ _ _ _ _ _ _) ?_
            refine wp_in2 ?_
            refine wp_of (uf_X5_setAlong _ _ _ _ _ _) ?_
            refine wp_ifp h_13 ?_
            refine wp_ck (i_inb (by omega) (by omega)) ?_
            generalize hz_z__24 : (y_18 - x4) = z__24
            have e_25 := i_subE hz_z__24 (by omega) (by omega)
            refine wp_nm (fun l_3 h_l_3 => ?_)
            have nl_l_3 : l_3.length = 32 := by rw [h_l_3, is_len]; assumption
            refine wp_so2 ?_
            show wp _ _
            refine wp_nm (fun y_52 h_y_52 => ?_)
            have e_26 := i_addE h_y_52.symm (by omega) (by omega)
            exact ih _ _ _ _ _ _ _ _ _ _ _ _ _ h_0 h_1 h_2 h_3 h_4 h_5 h_6 h_7 nl_l_3 h_9 nl_l_44 nl_l_48 h_12 h_13 h_14 h_15 h_16 h_17 h_18 (by omega) (by omega) h_21 (by first | assumption | exact zn_nil (by omega) | (rw [h_l_3]; first | exact zn_out h_22 (by omega) (by omega) | exact zn_in h_22 (by omega) (by omega) (by omega) | exact zn_ext h_22 (by omega) (by omega) (by omega) (by omega) (by omega) | exact zn_out (zn_sub h_22 (by omega) (by omega) (by omega) (by omega)) (by omega) (by omega) | exact zn_out h_23 (by omega) (by omega) | exact zn_in h_23 (by omega) (by omega) (by omega) | exact zn_ext h_23 (by omega) (by omega) (by omega) (by omega) (by omega) | exact zn_out (zn_sub h_23 (by omega) (by omega) (by omega) (by omega)) (by omega) (by omega)) | (exfalso; omega)) (by first | assumption | exact zn_nil (by omega) | (rw [h_l_3]; first | exact zn_out h_22 (by omega) (by omega) | exact zn_in h_22 (by omega) (by omega) (by omega) | exact zn_ext h_22 (by omega) (by omega) (by omega) (by omega) (by omega) | exact zn_out (zn_sub h_22 (by omega) (by omega) (by omega) (by omega)) (by omega) (by omega) | exact zn_out h_23 (by omega) (by omega) | exact zn_in h_23 (by omega) (by omega) (by omega) | exact zn_ext h_23 (by omega) (by omega) (by omega) (by omega) (by omega) | exact zn_out (zn_sub h_23 (by omega) (by omega) (by omega) (by omega)) (by omega) (by omega)) | (exfalso; omega)) (by omega)
          ·
            have dc_23 := i_ne c_23
            refine wp_so1 ?_
            show wp _ _
            refine wp_ifp (by decide) ?_
            refine wp_of (uf_X5_turn_144 _ _ _ _ _ _ _ _ _ _ _ _ _ _ _ _ _ _ _) ?_
            refine wp_nm (fun y_42__27 _ => ?_)
            refine wp_ck (i_inb (by omega) (by omega)) ?_
            refine wp_nm (fun l_44__28 h_l_44__28 => ?_)
            have nl_l_44__28 : l_44__28.length = 32 := by rw [h_l_44__28, is_len]; assumption
            refine wp_ck (i_inb (by omega) (by omega)) ?_
            refine wp_nm (fun y_46__29 _ => ?_)
            refine wp_ck (i_inb (by omega) (by omega)) ?_
            refine wp_nm (fun l_48__30 h_l_48__30 => ?_)
            have nl_l_48__30 : l_48__30.length = 32 := by rw [h_l_48__30, is_len]; assumption
            refine wp_of (uf_X5_turn_188 _ _ _ _ _ _ _ _ _ _ _ _ _ _ _ _) ?_
            refine wp_in2 ?_
            refine wp_of (uf_X5_setAlong _ _ _ _ _ _) ?_
            refine wp_ifp h_13 ?_
            refine wp_ck (i_inb (by omega) (by omega)) ?_
            generalize hz_z__32 : (y_18 - x4) = z__32
            have e_33 := i_subE hz_z__32 (by omega) (by omega)
            refine wp_nm (fun l_3__31 h_l_3__31 => ?_)
            have nl_l_3__31 : l_3__31.length = 32 := by rw [h_l_3__31, is_len]; assumption
            refine wp_so2 ?_
            show wp _ _
            refine wp_nm (fun y_52__34 h_y_52__34 => ?_)
            have e_35 := i_addE h_y_52__34.symm (by omega) (by omega)
            exact ih _ _ _ _ _ _ _ _ _ _ _ _ _ h_0 h_1 h_2 h_3 h_4 h_5 h_6 h_7 nl_l_3__31 h_9 nl_l_44__28 nl_l_48__30 h_12 h_13 h_14 h_15 h_16 h_17 h_18 (by omega) (by omega) h_21 (by first | assumption | exact zn_nil (by omega) | (rw [h_l_3__31]; first | exact zn_out h_22 (by omega) (by omega) | exact zn_in h_22 (by omega) (by omega) (by omega) | exact zn_ext h_22 (by omega) (by omega) (by omega) (by omega) (by omega) | exact zn_out (zn_sub h_22 (by omega) (by omega) (by omega) (by omega)) (by omega) (by omega) | exact zn_out h_23 (by omega) (by omega) | exact zn_in h_23 (by omega) (by omega) (by omega) | exact zn_ext h_23 (by omega) (by omega) (by omega) (by omega) (by omega) | exact zn_out (zn_sub h_23 (by omega) (by omega) (by omega) (by omega)) (by omega) (by omega)) | (exfalso; omega)) (by first | assumption | exact zn_nil (by omega) | (rw [h_l_3__31]; first | exact zn_out h_22 (by omega) (by omega) | exact zn_in h_22 (by omega) (by omega) (by omega) | exact zn_ext h_22 (by omega) (by omega) (by omega) (by omega) (by omega) | exact zn_out (zn_sub h_22 (by omega) (by omega) (by omega) (by omega)) (by omega) (by omega) | exact zn_out h_23 (by omega) (by omega) | exact zn_in h_23 (by omega) (by omega) (by omega) | exact zn_ext h_23 (by omega) (by omega) (by omega) (by omega) (by omega) | exact zn_out (zn_sub h_23 (by omega) (by omega) (by omega) (by omega)) (by omega) (by omega)) | (exfalso; omega)) (by omega)
        ·
          have dc_20 := i_ne c_20
          refine wp_in1 ?_
          refine wp_of (uf_X5_comesOver _ _) ?_
          refine wp_if (fun c_36 => ?_) (fun c_36 => ?_)
          ·
            have dc_36 := i_eq c_36
            refine wp_so1 ?_
            show wp _ _
            refine wp_ifn (by decide) ?_
            refine wp_of (uf_X5_turn_188 _ _ _ _ _ _ _ _ _ _ _ _ _ _ _ _) ?_
            refine wp_in2 ?_
            refine wp_of (uf_X5_setAlong _ _ _ _ _ _) ?_
            refine wp_ifp h_13 ?_
            refine wp_ck (i_inb (by omega) (by omega)) ?_
            generalize hz_z__38 : ((mm_ig v_rowOf x5) - x4) = z__38
            have e_39 := i_subE hz_z__38 (by omega) (by omega)
            refine wp_nm (fun l_3__37 h_l_3__37 => ?_)
            have nl_l_3__37 : l_3__37.length = 32 := by rw [h_l_3__37, is_len]; assumption
            refine wp_so2 ?_
            show wp _ _
            refine wp_nm (fun y_52__40 h_y_52__40 => ?_)
            have e_41 := i_addE h_y_52__40.symm (by omega) (by omega)
            exact ih _ _ _ _ _ _ _ _ _ _ _ _ _ h_0 h_1 h_2 h_3 h_4 h_5 h_6 h_7 nl_l_3__37 h_9 h_10 h_11 h_12 h_13 h_14 h_15 h_16 h_17 h_18 (by omega) (by omega) h_21 (by first | assumption | exact zn_nil (by omega) | (rw [h_l_3__37]; first | exact zn_out h_22 (by omega) (by omega) | exact zn_in h_22 (by omega) (by omega) (by omega) | exact zn_ext h_22 (by omega) (by omega) (by omega) (by omega) (by omega) | exact zn_out (zn_sub h_22 (by omega) (by omega) (by omega) (by omega)) (by omega) (by omega) | exact zn_out h_23 (by omega) (by omega) | exact zn_in h_23 (by omega) (by omega) (by omega) | exact zn_ext h_23 (by omega) (by omega) (by omega) (by omega) (by omega) | exact zn_out (zn_sub h_23 (by omega) (by omega) (by omega) (by omega)) (by omega) (by omega)) | (exfalso; omega)) (by first | assumption | exact zn_nil (by omega) | (rw [h_l_3__37]; first | exact zn_out h_22 (by omega) (by omega) | exact zn_in h_22 (by omega) (by omega) (by omega) | exact zn_ext h_22 (by omega) (by omega) (by omega) (by omega) (by omega) | exact zn_out (zn_sub h_22 (by omega) (by omega) (by omega) (by omega)) (by omega) (by omega) | exact zn_out h_23 (by omega) (by omega) | exact zn_in h_23 (by omega) (by omega) (by omega) | exact zn_ext h_23 (by omega) (by omega) (by omega) (by omega) (by omega) | exact zn_out (zn_sub h_23 (by omega) (by omega) (by omega) (by omega)) (by omega) (by omega)) | (exfalso; omega)) (by omega)
          ·
            have dc_36 := i_ne c_36
            refine wp_so1 ?_
            show wp _ _
            refine wp_ifp (by decide) ?_
            refine wp_ck (i_inb (by omega) (by omega)) ?_
            refine wp_nm (fun y_31 _ => ?_)
            refine wp_ck (i_inb (by omega) (by omega)) ?_
            refine wp_nm (fun l_33 h_l_33 => ?_)
            have nl_l_33 : l_33.length = 32 := by rw [h_l_33, is_len]; assumption
            refine wp_of (uf_X5_turn_188 _ _ _ _ _ _ _ _ _ _ _ _ _ _ _ _) ?_
            refine wp_in2 ?_
            refine wp_of (uf_X5_setAlong _ _ _ _ _ _) ?_
            refine wp_ifp h_13 ?_
            refine wp_ck (i_inb (by omega) (by omega)) ?_
            generalize hz_z__43 : ((mm_ig v_rowOf x5) - x4) = z__43
            have e_44 := i_subE hz_z__43 (by omega) (by omega)
            refine wp_nm (fun l_3__42 h_l_3__42 => ?_)
            have nl_l_3__42 : l_3__42.length = 32 := by rw [h_l_3__42, is_len]; assumption
            refine wp_so2 ?_
            show wp _ _
            refine wp_nm (fun y_52__45 h_y_52__45 => ?_)
            have e_46 := i_addE h_y_52__45.symm (by omega) (by omega)
            exact ih _ _ _ _ _ _ _ _ _ _ _ _ _ h_0 h_1 h_2 h_3 h_4 h_5 h_6 h_7 nl_l_3__42 h_9 nl_l_33 h_11 h_12 h_13 h_14 h_15 h_16 h_17 h_18 (by omega) (by omega) h_21 (by first | assumption | exact zn_nil (by omega) | (rw [h_l_3__42]; first | exact zn_out h_22 (by omega) (by omega) | exact zn_in h_22 (by omega) (by omega) (by omega) | exact zn_ext h_22 (by omega) (by omega) (by omega) (by omega) (by omega) | exact zn_out (zn_sub h_22 (by omega) (by omega) (by omega) (by omega)) (by omega) (by omega) | exact zn_out h_23 (by omega) (by omega) | exact zn_in h_23 (by omega) (by omega) (by omega) | exact zn_ext h_23 (by omega) (by omega) (by omega) (by omega) (by omega) | exact zn_out (zn_sub h_23 (by omega) (by omega) (by omega) (by omega)) (by omega) (by omega)) | (exfalso; omega)) (by first | assumption | exact zn_nil (by omega) | (rw [h_l_3__42]; first | exact zn_out h_22 (by omega) (by omega) | exact zn_in h_22 (by omega) (by omega) (by omega) | exact zn_ext h_22 (by omega) (by omega) (by omega) (by omega) (by omega) | exact zn_out (zn_sub h_22 (by omega) (by omega) (by omega) (by omega)) (by omega) (by omega) | exact zn_out h_23 (by omega) (by omega) | exact zn_in h_23 (by omega) (by omega) (by omega) | exact zn_ext h_23 (by omega) (by omega) (by omega) (by omega) (by omega) | exact zn_out (zn_sub h_23 (by omega) (by omega) (by omega) (by omega)) (by omega) (by omega)) | (exfalso; omega)) (by omega)
      ·
        have dc_17 := i_nle c_17
        refine wp_of (uf_X5_turn_90 _ _ _ _ _ _ _ _ _ _ _ _ _ _ _ _ _ _ _) ?_
        refine wp_in1 ?_
        refine wp_of (uf_X5_comesFromStart _ _) ?_
        have n_48 : (0 : Int32).toInt = 0 := by decide
        refine wp_ifp h_14 ?_
        refine wp_so1 ?_
        show wp _ _
        generalize hz_z__50 : (mm_b true) = z__50
        have e_51 : z__50.toInt = 1 := by rw [← hz_z__50]; decide
        refine wp_if (fun c_49 => ?_) (fun c_49 => ?_)
        ·
          have dc_49 := i_eq c_49
          refine wp_in1 ?_
          refine wp_of (uf_X5_across _ _ _ _ _) ?_
          refine wp_ifp h_13 ?_
          refine wp_ck (i_inb (by omega) (by omega)) ?_
          refine wp_so1 ?_
          show wp _ _
          refine wp_bd1 (sf_X5_tallAt hN h_4 h_5 h_6 h_7 h_12 (by omega) (by omega) (by omega)) (fun r_36__52 _ => ?_)
          refine wp_ck (i_inb (by omega) (by omega)) ?_
          refine wp_in1 ?_
          refine wp_of (uf_X5_comesOver _ _) ?_
          refine wp_if (fun c_53 => ?_) (fun c_53 => ?_)
          ·
            have dc_53 := i_eq c_53
            refine wp_so1 ?_
            show wp _ _
            refine wp_ifn (by decide) ?_
            refine wp_of (uf_X5_turn_144 _ _ _ _ _ _ _ _ _ _ _ _ _ _ _ _ _ _ _) ?_
            refine wp_nm (fun y_42__54 _ => ?_)
            refine wp_ck (i_inb (by omega) (by omega)) ?_
            refine wp_nm (fun l_44__55 h_l_44__55 => ?_)
            have nl_l_44__55 : l_44__55.length = 32 := by rw [h_l_44__55, is_len]; assumption
            refine wp_ck (i_inb (by omega) (by omega)) ?_
            refine wp_nm (fun y_46__56 _ => ?_)
            refine wp_ck (i_inb (by omega) (by omega)) ?_
            refine wp_nm (fun l_48__57 h_l_48__57 => ?_)
            have nl_l_48__57 : l_48__57.length = 32 := by rw [h_l_48__57, is_len]; assumption
            refine wp_of (uf_X5_turn_188 _ _ _ _ _ _ _ _ _ _ _ _ _ _ _ _) ?_
            refine wp_in2 ?_
            refine wp_of (uf_X5_setAlong _ _ _ _ _ _) ?_
            refine wp_ifp h_13 ?_
            refine wp_ck (i_inb (by omega) (by omega)) ?_
            generalize hz_z__59 : (y_18 - x4) = z__59
            have e_60 := i_subE hz_z__59 (by omega) (by omega)
            refine wp_nm (fun l_3__58 h_l_3__58 => ?_)
            have nl_l_3__58 : l_3__58.length = 32 := by rw [h_l_3__58, is_len]; assumption
            refine wp_so2 ?_
            show wp _ _
            refine wp_nm (fun y_52__61 h_y_52__61 => ?_)
            have e_62 := i_addE h_y_52__61.symm (by omega) (by omega)
            exact ih _ _ _ _ _ _ _ _ _ _ _ _ _ h_0 h_1 h_2 h_3 h_4 h_5 h_6 h_7 nl_l_3__58 h_9 nl_l_44__55 nl_l_48__57 h_12 h_13 h_14 h_15 h_16 h_17 h_18 (by omega) (by omega) h_21 (by first | assumption | exact zn_nil (by omega) | (rw [h_l_3__58]; first | exact zn_out h_22 (by omega) (by omega) | exact zn_in h_22 (by omega) (by omega) (by omega) | exact zn_ext h_22 (by omega) (by omega) (by omega) (by omega) (by omega) | exact zn_out (zn_sub h_22 (by omega) (by omega) (by omega) (by omega)) (by omega) (by omega) | exact zn_out h_23 (by omega) (by omega) | exact zn_in h_23 (by omega) (by omega) (by omega) | exact zn_ext h_23 (by omega) (by omega) (by omega) (by omega) (by omega) | exact zn_out (zn_sub h_23 (by omega) (by omega) (by omega) (by omega)) (by omega) (by omega)) | (exfalso; omega)) (by first | assumption | exact zn_nil (by omega) | (rw [h_l_3__58]; first | exact zn_out h_22 (by omega) (by omega) | exact zn_in h_22 (by omega) (by omega) (by omega) | exact zn_ext h_22 (by omega) (by omega) (by omega) (by omega) (by omega) | exact zn_out (zn_sub h_22 (by omega) (by omega) (by omega) (by omega)) (by omega) (by omega) | exact zn_out h_23 (by omega) (by omega) | exact zn_in h_23 (by omega) (by omega) (by omega) | exact zn_ext h_23 (by omega) (by omega) (by omega) (by omega) (by omega) | exact zn_out (zn_sub h_23 (by omega) (by omega) (by omega) (by omega)) (by omega) (by omega)) | (exfalso; omega)) (by omega)
          ·
            have dc_53 := i_ne c_53
            refine wp_so1 ?_
            show wp _ _
            refine wp_ifp (by decide) ?_
            refine wp_of (uf_X5_turn_144 _ _ _ _ _ _ _ _ _ _ _ _ _ _ _ _ _ _ _) ?_
            refine wp_nm (fun y_42__63 _ => ?_)
            refine wp_ck (i_inb (by omega) (by omega)) ?_
            refine wp_nm (fun l_44__64 h_l_44__64 => ?_)
            have nl_l_44__64 : l_44__64.length = 32 := by rw [h_l_44__64, is_len]; assumption
            refine wp_ck (i_inb (by omega) (by omega)) ?_
            refine wp_nm (fun y_46__65 _ => ?_)
            refine wp_ck (i_inb (by omega) (by omega)) ?_
            refine wp_nm (fun l_48__66 h_l_48__66 => ?_)
            have nl_l_48__66 : l_48__66.length = 32 := by rw [h_l_48__66, is_len]; assumption
            refine wp_of (uf_X5_turn_188 _ _ _ _ _ _ _ _ _ _ _ _ _ _ _ _) ?_
            refine wp_in2 ?_
            refine wp_of (uf_X5_setAlong _ _ _ _ _ _) ?_
            refine wp_ifp h_13 ?_
            refine wp_ck (i_inb (by omega) (by omega)) ?_
            generalize hz_z__68 : (y_18 - x4) = z__68
            have e_69 := i_subE hz_z__68 (by omega) (by omega)
            refine wp_nm (fun l_3__67 h_l_3__67 => ?_)
            have nl_l_3__67 : l_3__67.length = 32 := by rw [h_l_3__67, is_len]; assumption
            refine wp_so2 ?_
            show wp _ _
            refine wp_nm (fun y_52__70 h_y_52__70 => ?_)
            have e_71 := i_addE h_y_52__70.symm (by omega) (by omega)
            exact ih _ _ _ _ _ _ _ _ _ _ _ _ _ h_0 h_1 h_2 h_3 h_4 h_5 h_6 h_7 nl_l_3__67 h_9 nl_l_44__64 nl_l_48__66 h_12 h_13 h_14 h_15 h_16 h_17 h_18 (by omega) (by omega) h_21 (by first | assumption | exact zn_nil (by omega) | (rw [h_l_3__67]; first | exact zn_out h_22 (by omega) (by omega) | exact zn_in h_22 (by omega) (by omega) (by omega) | exact zn_ext h_22 (by omega) (by omega) (by omega) (by omega) (by omega) | exact zn_out (zn_sub h_22 (by omega) (by omega) (by omega) (by omega)) (by omega) (by omega) | exact zn_out h_23 (by omega) (by omega) | exact zn_in h_23 (by omega) (by omega) (by omega) | exact zn_ext h_23 (by omega) (by omega) (by omega) (by omega) (by omega) | exact zn_out (zn_sub h_23 (by omega) (by omega) (by omega) (by omega)) (by omega) (by omega)) | (exfalso; omega)) (by first | assumption | exact zn_nil (by omega) | (rw [h_l_3__67]; first | exact zn_out h_22 (by omega) (by omega) | exact zn_in h_22 (by omega) (by omega) (by omega) | exact zn_ext h_22 (by omega) (by omega) (by omega) (by omega) (by omega) | exact zn_out (zn_sub h_22 (by omega) (by omega) (by omega) (by omega)) (by omega) (by omega) | exact zn_out h_23 (by omega) (by omega) | exact zn_in h_23 (by omega) (by omega) (by omega) | exact zn_ext h_23 (by omega) (by omega) (by omega) (by omega) (by omega) | exact zn_out (zn_sub h_23 (by omega) (by omega) (by omega) (by omega)) (by omega) (by omega)) | (exfalso; omega)) (by omega)
        ·
          have dc_49 := i_ne c_49
          refine wp_in1 ?_
          refine wp_of (uf_X5_comesOver _ _) ?_
          refine wp_if (fun c_72 => ?_) (fun c_72 => ?_)
          ·
            have dc_72 := i_eq c_72
            refine wp_so1 ?_
            show wp _ _
            refine wp_ifn (by decide) ?_
            refine wp_of (uf_X5_turn_188 _ _ _ _ _ _ _ _ _ _ _ _ _ _ _ _) ?_
            refine wp_in2 ?_
            refine wp_of (uf_X5_setAlong _ _ _ _ _ _) ?_
            refine wp_ifp h_13 ?_
            refine wp_ck (i_inb (by omega) (by omega)) ?_
            generalize hz_z__74 : ((mm_ig v_rowOf x5) - x4) = z__74
            have e_75 := i_subE hz_z__74 (by omega) (by omega)
            refine wp_nm (fun l_3__73 h_l_3__73 => ?_)
            have nl_l_3__73 : l_3__73.length = 32 := by rw [h_l_3__73, is_len]; assumption
            refine wp_so2 ?_
            show wp _ _
            refine wp_nm (fun y_52__76 h_y_52__76 => ?_)
            have e_77 := i_addE h_y_52__76.symm (by omega) (by omega)
            exact ih _ _ _ _ _ _ _ _ _ _ _ _ _ h_0 h_1 h_2 h_3 h_4 h_5 h_6 h_7 nl_l_3__73 h_9 h_10 h_11 h_12 h_13 h_14 h_15 h_16 h_17 h_18 (by omega) (by omega) h_21 (by first | assumption | exact zn_nil (by omega) | (rw [h_l_3__73]; first | exact zn_out h_22 (by omega) (by omega) | exact zn_in h_22 (by omega) (by omega) (by omega) | exact zn_ext h_22 (by omega) (by omega) (by omega) (by omega) (by omega) | exact zn_out (zn_sub h_22 (by omega) (by omega) (by omega) (by omega)) (by omega) (by omega) | exact zn_out h_23 (by omega) (by omega) | exact zn_in h_23 (by omega) (by omega) (by omega) | exact zn_ext h_23 (by omega) (by omega) (by omega) (by omega) (by omega) | exact zn_out (zn_sub h_23 (by omega) (by omega) (by omega) (by omega)) (by omega) (by omega)) | (exfalso; omega)) (by first | assumption | exact zn_nil (by omega) | (rw [h_l_3__73]; first | exact zn_out h_22 (by omega) (by omega) | exact zn_in h_22 (by omega) (by omega) (by omega) | exact zn_ext h_22 (by omega) (by omega) (by omega) (by omega) (by omega) | exact zn_out (zn_sub h_22 (by omega) (by omega) (by omega) (by omega)) (by omega) (by omega) | exact zn_out h_23 (by omega) (by omega) | exact zn_in h_23 (by omega) (by omega) (by omega) | exact zn_ext h_23 (by omega) (by omega) (by omega) (by omega) (by omega) | exact zn_out (zn_sub h_23 (by omega) (by omega) (by omega) (by omega)) (by omega) (by omega)) | (exfalso; omega)) (by omega)
          ·
            have dc_72 := i_ne c_72
            refine wp_so1 ?_
            show wp _ _
            refine wp_ifp (by decide) ?_
            refine wp_ck (i_inb (by omega) (by omega)) ?_
            refine wp_nm (fun y_31__78 _ => ?_)
            refine wp_ck (i_inb (by omega) (by omega)) ?_
            refine wp_nm (fun l_33__79 h_l_33__79 => ?_)
            have nl_l_33__79 : l_33__79.length = 32 := by rw [h_l_33__79, is_len]; assumption
            refine wp_of (uf_X5_turn_188 _ _ _ _ _ _ _ _ _ _ _ _ _ _ _ _) ?_
            refine wp_in2 ?_
            refine wp_of (uf_X5_setAlong _ _ _ _ _ _) ?_
            refine wp_ifp h_13 ?_
            refine wp_ck (i_inb (by omega) (by omega)) ?_
            generalize hz_z__81 : ((mm_ig v_rowOf x5) - x4) = z__81
            have e_82 := i_subE hz_z__81 (by omega) (by omega)
            refine wp_nm (fun l_3__80 h_l_3__80 => ?_)
            have nl_l_3__80 : l_3__80.length = 32 := by rw [h_l_3__80, is_len]; assumption
            refine wp_so2 ?_
            show wp _ _
            refine wp_nm (fun y_52__83 h_y_52__83 => ?_)
            have e_84 := i_addE h_y_52__83.symm (by omega) (by omega)
            exact ih _ _ _ _ _ _ _ _ _ _ _ _ _ h_0 h_1 h_2 h_3 h_4 h_5 h_6 h_7 nl_l_3__80 h_9 nl_l_33__79 h_11 h_12 h_13 h_14 h_15 h_16 h_17 h_18 (by omega) (by omega) h_21 (by first | assumption | exact zn_nil (by omega) | (rw [h_l_3__80]; first | exact zn_out h_22 (by omega) (by omega) | exact zn_in h_22 (by omega) (by omega) (by omega) | exact zn_ext h_22 (by omega) (by omega) (by omega) (by omega) (by omega) | exact zn_out (zn_sub h_22 (by omega) (by omega) (by omega) (by omega)) (by omega) (by omega) | exact zn_out h_23 (by omega) (by omega) | exact zn_in h_23 (by omega) (by omega) (by omega) | exact zn_ext h_23 (by omega) (by omega) (by omega) (by omega) (by omega) | exact zn_out (zn_sub h_23 (by omega) (by omega) (by omega) (by omega)) (by omega) (by omega)) | (exfalso; omega)) (by first | assumption | exact zn_nil (by omega) | (rw [h_l_3__80]; first | exact zn_out h_22 (by omega) (by omega) | exact zn_in h_22 (by omega) (by omega) (by omega) | exact zn_ext h_22 (by omega) (by omega) (by omega) (by omega) (by omega) | exact zn_out (zn_sub h_22 (by omega) (by omega) (by omega) (by omega)) (by omega) (by omega) | exact zn_out h_23 (by omega) (by omega) | exact zn_in h_23 (by omega) (by omega) (by omega) | exact zn_ext h_23 (by omega) (by omega) (by omega) (by omega) (by omega) | exact zn_out (zn_sub h_23 (by omega) (by omega) (by omega) (by omega)) (by omega) (by omega)) | (exfalso; omega)) (by omega)

set_option maxHeartbeats 4000000 in
set_option maxRecDepth 20000 in
theorem sf_X5_turn_35_re {N : Nat} (hN : 700 ≤ N)  : ∀ (n : Nat) (x1 : Int32) (x2 : Int32) (x4 : Int32) (x5 : Int32) (v_rows : Int32) (v_cols : Int32) (v_high : Int32) (v_wide : Int32) (v_rowOf : List Int32) (v_colOf : List Int32) (v_below : List Int32) (v_face : List Int32) (v_tall : List Int32), 1 ≤ v_rows.toInt → v_rows.toInt ≤ 4 → 1 ≤ v_cols.toInt → v_cols.toInt ≤ 8 → 1 ≤ v_high.toInt → v_high.toInt ≤ 4 → 1 ≤ v_wide.toInt → v_wide.toInt ≤ 8 → v_rowOf.length = 32 → v_colOf.length = 32 → v_below.length = 32 → v_face.length = 32 → v_tall.length = 32 → ((4 : Int32) ≤ x2) → ¬ ((x2 &&& (2 : Int32)) = (0 : Int32)) → 1 ≤ x1.toInt → x1.toInt < v_high.toInt → 4 ≤ x2.toInt → x4.toInt = min 0 (2 * x1.toInt - v_high.toInt) → 0 ≤ x5.toInt → x5.toInt ≤ v_rows.toInt * v_cols.toInt → zn v_colOf 0 (v_rows.toInt * v_cols.toInt) 0 v_wide.toInt → zn v_rowOf 0 x5.toInt 0 (max x1.toInt (v_high.toInt - x1.toInt)) → zn v_rowOf x5.toInt (v_rows.toInt * v_cols.toInt) 0 v_high.toInt → (v_rows.toInt * v_cols.toInt - x5.toInt).toNat < n → wp (fX5_turn_35 N n x1 x2 x4 x5 v_rows v_cols v_high v_wide v_rowOf v_colOf v_below v_face v_tall) (cu7 (fun (wv_high : Int32) (wv_wide : Int32) (wv_rowOf : List Int32) (wv_colOf : List Int32) (wv_below : List Int32) (wv_face : List Int32) (wv_tall : List Int32) => 1 ≤ wv_high.toInt ∧ wv_high.toInt ≤ 4 ∧ 1 ≤ wv_wide.toInt ∧ wv_wide.toInt ≤ 8 ∧ wv_rowOf.length = 32 ∧ wv_colOf.length = 32 ∧ wv_below.length = 32 ∧ wv_face.length = 32 ∧ wv_tall.length = 32 ∧ zn wv_rowOf 0 (v_rows.toInt * v_cols.toInt) 0 wv_high.toInt ∧ zn wv_colOf 0 (v_rows.toInt * v_cols.toInt) 0 wv_wide.toInt)) := by
  intro n
  induction n with
  | zero =>
    intro x1 x2 x4 x5 v_rows v_cols v_high v_wide v_rowOf v_colOf v_below v_face v_tall h_0 h_1 h_2 h_3 h_4 h_5 h_6 h_7 h_8 h_9 h_10 h_11 h_12 h_13 h_14 h_15 h_16 h_17 h_18 h_19 h_20 h_21 h_22 h_23 hm
    exact absurd hm (by omega)
  | succ n ih =>
    intro x1 x2 x4 x5 v_rows v_cols v_high v_wide v_rowOf v_colOf v_below v_face v_tall h_0 h_1 h_2 h_3 h_4 h_5 h_6 h_7 h_8 h_9 h_10 h_11 h_12 h_13 h_14 h_15 h_16 h_17 h_18 h_19 h_20 h_21 h_22 h_23 hm
    have m3 := (i_fl (a := v_rows) (b := v_cols) (by omega) (by omega) (by omega) (by omega)).2
    refine wp_of (uf_X5_turn_35 _ _ _ _ _ _ _ _ _ _ _ _ _ _ _) ?_
    refine wp_bd1 (sf_X5_fields hN h_0 h_1 h_2 h_3) (fun r_8 ⟨q_1, q_2, q_3⟩ => ?_)
    refine wp_if (fun c_4 => ?_) (fun c_4 => ?_)
    ·
      have dc_4 := i_le c_4
      refine wp_in1 ?_
      refine wp_of (uf_X5_spanBehind _ _ _ _ _) ?_
      refine wp_in1 ?_
      refine wp_of (uf_X5_span _ _ _ _) ?_
      refine wp_ifp h_13 ?_
      refine wp_so1 ?_
      show wp _ _
      refine wp_so1 ?_
      show wp _ _
      refine wp_in2 ?_
      refine wp_of (uf_X5_narrow _ _ _ _ _) ?_
      refine wp_ifp h_13 ?_
      refine wp_so2 ?_
      show wp _ _
      generalize hz_z : (v_high - x1) = z
      have e_5 := i_subE hz_z (by omega) (by omega)
      generalize hz_z__6 : (mm_max x1 z) = z__6
      have e_7 := i_maxY hz_z__6
      exact wp_so7 ⟨(by omega), (by omega), h_6, h_7, h_8, h_9, h_10, h_11, h_12, (by first | assumption | exact zn_nil (by omega) | exact zn_sub h_22 (by omega) (by omega) (by omega) (by omega) | exact zn_sub h_23 (by omega) (by omega) (by omega) (by omega) | (exfalso; omega)), h_21⟩
    ·
      have dc_4 := i_nle c_4
      refine wp_in1 ?_
      refine wp_of (uf_X5_along _ _ _ _ _) ?_
      refine wp_ifp h_13 ?_
      refine wp_ck (i_inb (by omega) (by omega)) ?_
      refine wp_so1 ?_
      show wp _ _
      have n_8 : (2 : Int32).toInt = 2 := by decide
      generalize hz_z__9 : ((2 : Int32) * x1) = z__9
      have e_10 := i_mulLE (c := 2) (by decide) hz_z__9 (by omega) (by omega)
      have n_11 : (1 : Int32).toInt = 1 := by decide
      generalize hz_z__12 : (z__9 - (1 : Int32)) = z__12
      have e_13 := i_subE hz_z__12 (by omega) (by omega)
      obtain ⟨e_14, e1_14⟩ := zn_get h_23 (i := x5) (by omega) (by omega) (by omega) (by omega)
      refine wp_nm (fun y_18 h_y_18 => ?_)
      have e_15 := i_subE h_y_18.symm (by omega) (by omega)
      refine wp_in1 ?_
      refine wp_of (uf_X5_across _ _ _ _ _) ?_
      refine wp_ifp h_13 ?_
      refine wp_ck (i_inb (by omega) (by omega)) ?_
      refine wp_so1 ?_
      show wp _ _
      obtain ⟨e_16, e1_16⟩ := zn_get h_21 (i := x5) (by omega) (by omega) (by omega) (by omega)
      refine wp_bd1 (sf_X5_tallAt hN h_4 h_5 h_6 h_7 h_12 (by omega) (by omega) (by omega)) (fun r_21 _ => ?_)
      refine wp_if (fun c_17 => ?_) (fun c_17 => ?_)
      ·
        have dc_17 := i_le c_17
        refine wp_of (uf_X5_turn_90 _ _ _ _ _ _ _ _ _ _ _ _ _ _ _ _ _ _ _) ?_
        refine wp_in1 ?_
        refine wp_of (uf_X5_comesFromStart _ _) ?_
        have n_19 : (0 : Int32).toInt = 0 := by decide
        refine wp_ifn h_14 ?_
        refine wp_so1 ?_
        show wp _ _
        generalize hz_z__21 : (mm_b false) = z__21
        have e_22 : z__21.toInt = 0 := by rw [← hz_z__21]; decide
        refine wp_if (fun c_20 => ?_) (fun c_20 => ?_)
        ·
          have dc_20 := i_eq c_20
          refine wp_in1 ?_
          refine wp_of (uf_X5_across _ _ _ _ _) ?_
          refine wp_ifp h_13 ?_
          refine wp_ck (i_inb (by omega) (by omega)) ?_
          refine wp_so1 ?_
          show wp _ _
          refine wp_bd1 (sf_X5_tallAt hN h_4 h_5 h_6 h_7 h_12 (by omega) (by omega) (by omega)) (fun r_36 _ => ?_)
          refine wp_ck (i_inb (by omega) (by omega)) ?_
          refine wp_in1 ?_
          refine wp_of (uf_X5_comesOver _ _) ?_
          refine wp_if (fun c_23 => ?_) (fun c_23 => ?_)
          ·
            have dc_23 := i_eq c_23
            refine wp_so1 ?_
            show wp _ _
            refine wp_ifn (by decide) ?_
            refine wp_of (uf_X5_turn_144 _ _ _ _ _ _ _ _ _ _ _ _ _ _ _ _ _ _ _) ?_
            refine wp_nm (fun y_42 _ => ?_)
            refine wp_ck (i_inb (by omega) (by omega)) ?_
            refine wp_nm (fun l_44 h_l_44 => ?_)
            have nl_l_44 : l_44.length = 32 := by rw [h_l_44, is_len]; assumption
            refine wp_ck (i_inb (by omega) (by omega)) ?_
            refine wp_nm (fun y_46 _ => ?_)
            refine wp_ck (i_inb (by omega) (by omega)) ?_
            refine wp_nm (fun l_48 h_l_48 => ?_)
            have nl_l_48 : l_48.length = 32 := by rw [h_l_48, is_len]; assumption
            refine wp_of (uf_X5_turn_188 _ _ _ _ _ _ _ _ _ _ _ _ _ _ _ _) ?_
            refine wp_in2 ?_
            refine wp_of (uf_X5_setAlong _ _ _ _ _ _) ?_
            refine wp_ifp h_13 ?_
            refine wp_ck (i_inb (by omega) (by omega)) ?_
            generalize hz_z__24 : (y_18 - x4) = z__24
            have e_25 := i_subE hz_z__24 (by omega) (by omega)
            refine wp_nm (fun l_3 h_l_3 => ?_)
            have nl_l_3 : l_3.length = 32 := by rw [h_l_3, is_len]; assumption
            refine wp_so2 ?_
            show wp _ _
            refine wp_nm (fun y_52 h_y_52 => ?_)
            have e_26 := i_addE h_y_52.symm (by omega) (by omega)
            exact ih _ _ _ _ _ _ _ _ _ _ _ _ _ h_0 h_1 h_2 h_3 h_4 h_5 h_6 h_7 nl_l_3 h_9 nl_l_44 nl_l_48 h_12 h_13 h_14 h_15 h_16 h_17 h_18 (by omega) (by omega) h_21 (by first | assumption | exact zn_nil (by omega) | (rw [h_l_3]; first | exact zn_out h_22 (by omega) (by omega) | exact zn_in h_22 (by omega) (by omega) (by omega) | exact zn_ext h_22 (by omega) (by omega) (by omega) (by omega) (by omega) | exact zn_out (zn_sub h_22 (by omega) (by omega) (by omega) (by omega)) (by omega) (by omega) | exact zn_out h_23 (by omega) (by omega) | exact zn_in h_23 (by omega) (by omega) (by omega) | exact zn_ext h_23 (by omega) (by omega) (by omega) (by omega) (by omega) | exact zn_out (zn_sub h_23 (by omega) (by omega) (by omega) (by omega)) (by omega) (by omega)) | (exfalso; omega)) (by first | assumption | exact zn_nil (by omega) | (rw [h_l_3]; first | exact zn_out h_22 (by omega) (by omega) | exact zn_in h_22 (by omega) (by omega) (by omega) | exact zn_ext h_22 (by omega) (by omega) (by omega) (by omega) (by omega) | exact zn_out (zn_sub h_22 (by omega) (by omega) (by omega) (by omega)) (by omega) (by omega) | exact zn_out h_23 (by omega) (by omega) | exact zn_in h_23 (by omega) (by omega) (by omega) | exact zn_ext h_23 (by omega) (by omega) (by omega) (by omega) (by omega) | exact zn_out (zn_sub h_23 (by omega) (by omega) (by omega) (by omega)) (by omega) (by omega)) | (exfalso; omega)) (by omega)
          ·
            have dc_23 := i_ne c_23
            refine wp_so1 ?_
            show wp _ _
            refine wp_ifp (by decide) ?_
            refine wp_of (uf_X5_turn_144 _ _ _ _ _ _ _ _ _ _ _ _ _ _ _ _ _ _ _) ?_
            refine wp_nm (fun y_42__27 _ => ?_)
            refine wp_ck (i_inb (by omega) (by omega)) ?_
            refine wp_nm (fun l_44__28 h_l_44__28 => ?_)
            have nl_l_44__28 : l_44__28.length = 32 := by rw [h_l_44__28, is_len]; assumption
            refine wp_ck (i_inb (by omega) (by omega)) ?_
            refine wp_nm (fun y_46__29 _ => ?_)
            refine wp_ck (i_inb (by omega) (by omega)) ?_
            refine wp_nm (fun l_48__30 h_l_48__30 => ?_)
            have nl_l_48__30 : l_48__30.length = 32 := by rw [h_l_48__30, is_len]; assumption
            refine wp_of (uf_X5_turn_188 _ _ _ _ _ _ _ _ _ _ _ _ _ _ _ _) ?_
            refine wp_in2 ?_
            refine wp_of (uf_X5_setAlong _ _ _ _ _ _) ?_
            refine wp_ifp h_13 ?_
            refine wp_ck (i_inb (by omega) (by omega)) ?_
            generalize hz_z__32 : (y_18 - x4) = z__32
            have e_33 := i_subE hz_z__32 (by omega) (by omega)
            refine wp_nm (fun l_3__31 h_l_3__31 => ?_)
            have nl_l_3__31 : l_3__31.length = 32 := by rw [h_l_3__31, is_len]; assumption
            refine wp_so2 ?_
            show wp _ _
            refine wp_nm (fun y_52__34 h_y_52__34 => ?_)
            have e_35 := i_addE h_y_52__34.symm (by omega) (by omega)
            exact ih _ _ _ _ _ _ _ _ _ _ _ _ _ h_0 h_1 h_2 h_3 h_4 h_5 h_6 h_7 nl_l_3__31 h_9 nl_l_44__28 nl_l_48__30 h_12 h_13 h_14 h_15 h_16 h_17 h_18 (by omega) (by omega) h_21 (by first | assumption | exact zn_nil (by omega) | (rw [h_l_3__31]; first | exact zn_out h_22 (by omega) (by omega) | exact zn_in h_22 (by omega) (by omega) (by omega) | exact zn_ext h_22 (by omega) (by omega) (by omega) (by omega) (by omega) | exact zn_out (zn_sub h_22 (by omega) (by omega) (by omega) (by omega)) (by omega) (by omega) | exact zn_out h_23 (by omega) (by omega) | exact zn_in h_23 (by omega) (by omega) (by omega) | exact zn_ext h_23 (by omega) (by omega) (by omega) (by omega) (by omega) | exact zn_out (zn_sub h_23 (by omega) (by omega) (by omega) (by omega)) (by omega) (by omega)) | (exfalso; omega)) (by first | assumption | exact zn_nil (by omega) | (rw [h_l_3__31]; first | exact zn_out h_22 (by omega) (by omega) | exact zn_in h_22 (by omega) (by omega) (by omega) | exact zn_ext h_22 (by omega) (by omega) (by omega) (by omega) (by omega) | exact zn_out (zn_sub h_22 (by omega) (by omega) (by omega) (by omega)) (by omega) (by omega) | exact zn_out h_23 (by omega) (by omega) | exact zn_in h_23 (by omega) (by omega) (by omega) | exact zn_ext h_23 (by omega) (by omega) (by omega) (by omega) (by omega) | exact zn_out (zn_sub h_23 (by omega) (by omega) (by omega) (by omega)) (by omega) (by omega)) | (exfalso; omega)) (by omega)
        ·
          have dc_20 := i_ne c_20
          refine wp_in1 ?_
          refine wp_of (uf_X5_comesOver _ _) ?_
          refine wp_if (fun c_36 => ?_) (fun c_36 => ?_)
          ·
            have dc_36 := i_eq c_36
            refine wp_so1 ?_
            show wp _ _
            refine wp_ifn (by decide) ?_
            refine wp_of (uf_X5_turn_188 _ _ _ _ _ _ _ _ _ _ _ _ _ _ _ _) ?_
            refine wp_in2 ?_
            refine wp_of (uf_X5_setAlong _ _ _ _ _ _) ?_
            refine wp_ifp h_13 ?_
            refine wp_ck (i_inb (by omega) (by omega)) ?_
            generalize hz_z__38 : ((mm_ig v_rowOf x5) - x4) = z__38
            have e_39 := i_subE hz_z__38 (by omega) (by omega)
            refine wp_nm (fun l_3__37 h_l_3__37 => ?_)
            have nl_l_3__37 : l_3__37.length = 32 := by rw [h_l_3__37, is_len]; assumption
            refine wp_so2 ?_
            show wp _ _
            refine wp_nm (fun y_52__40 h_y_52__40 => ?_)
            have e_41 := i_addE h_y_52__40.symm (by omega) (by omega)
            exact ih _ _ _ _ _ _ _ _ _ _ _ _ _ h_0 h_1 h_2 h_3 h_4 h_5 h_6 h_7 nl_l_3__37 h_9 h_10 h_11 h_12 h_13 h_14 h_15 h_16 h_17 h_18 (by omega) (by omega) h_21 (by first | assumption | exact zn_nil (by omega) | (rw [h_l_3__37]; first | exact zn_out h_22 (by omega) (by omega) | exact zn_in h_22 (by omega) (by omega) (by omega) | exact zn_ext h_22 (by omega) (by omega) (by omega) (by omega) (by omega) | exact zn_out (zn_sub h_22 (by omega) (by omega) (by omega) (by omega)) (by omega) (by omega) | exact zn_out h_23 (by omega) (by omega) | exact zn_in h_23 (by omega) (by omega) (by omega) | exact zn_ext h_23 (by omega) (by omega) (by omega) (by omega) (by omega) | exact zn_out (zn_sub h_23 (by omega) (by omega) (by omega) (by omega)) (by omega) (by omega)) | (exfalso; omega)) (by first | assumption | exact zn_nil (by omega) | (rw [h_l_3__37]; first | exact zn_out h_22 (by omega) (by omega) | exact zn_in h_22 (by omega) (by omega) (by omega) | exact zn_ext h_22 (by omega) (by omega) (by omega) (by omega) (by omega) | exact zn_out (zn_sub h_22 (by omega) (by omega) (by omega) (by omega)) (by omega) (by omega) | exact zn_out h_23 (by omega) (by omega) | exact zn_in h_23 (by omega) (by omega) (by omega) | exact zn_ext h_23 (by omega) (by omega) (by omega) (by omega) (by omega) | exact zn_out (zn_sub h_23 (by omega) (by omega) (by omega) (by omega)) (by omega) (by omega)) | (exfalso; omega)) (by omega)
          ·
            have dc_36 := i_ne c_36
            refine wp_so1 ?_
            show wp _ _
            refine wp_ifp (by decide) ?_
            refine wp_ck (i_inb (by omega) (by omega)) ?_
            refine wp_nm (fun y_31 _ => ?_)
            refine wp_ck (i_inb (by omega) (by omega)) ?_
            refine wp_nm (fun l_33 h_l_33 => ?_)
            have nl_l_33 : l_33.length = 32 := by rw [h_l_33, is_len]; assumption
            refine wp_of (uf_X5_turn_188 _ _ _ _ _ _ _ _ _ _ _ _ _ _ _ _) ?_
            refine wp_in2 ?_
            refine wp_of (uf_X5_setAlong _ _ _ _ _ _) ?_
            refine wp_ifp h_13 ?_
            refine wp_ck (i_inb (by omega) (by omega)) ?_
            generalize hz_z__43 : ((mm_ig v_rowOf x5) - x4) = z__43
            have e_44 := i_subE hz_z__43 (by omega) (by omega)
            refine wp_nm (fun l_3__42 h_l_3__42 => ?_)
            have nl_l_3__42 : l_3__42.length = 32 := by rw [h_l_3__42, is_len]; assumption
            refine wp_so2 ?_
            show wp _ _
            refine wp_nm (fun y_52__45 h_y_52__45 => ?_)
            have e_46 := i_addE h_y_52__45.symm (by omega) (by omega)
            exact ih _ _ _ _ _ _ _ _ _ _ _ _ _ h_0 h_1 h_2 h_3 h_4 h_5 h_6 h_7 nl_l_3__42 h_9 nl_l_33 h_11 h_12 h_13 h_14 h_15 h_16 h_17 h_18 (by omega) (by omega) h_21 (by first | assumption | exact zn_nil (by omega) | (rw [h_l_3__42]; first | exact zn_out h_22 (by omega) (by omega) | exact zn_in h_22 (by omega) (by omega) (by omega) | exact zn_ext h_22 (by omega) (by omega) (by omega) (by omega) (by omega) | exact zn_out (zn_sub h_22 (by omega) (by omega) (by omega) (by omega)) (by omega) (by omega) | exact zn_out h_23 (by omega) (by omega) | exact zn_in h_23 (by omega) (by omega) (by omega) | exact zn_ext h_23 (by omega) (by omega) (by omega) (by omega) (by omega) | exact zn_out (zn_sub h_23 (by omega) (by omega) (by omega) (by omega)) (by omega) (by omega)) | (exfalso; omega)) (by first | assumption | exact zn_nil (by omega) | (rw [h_l_3__42]; first | exact zn_out h_22 (by omega) (by omega) | exact zn_in h_22 (by omega) (by omega) (by omega) | exact zn_ext h_22 (by omega) (by omega) (by omega) (by omega) (by omega) | exact zn_out (zn_sub h_22 (by omega) (by omega) (by omega) (by omega)) (by omega) (by omega) | exact zn_out h_23 (by omega) (by omega) | exact zn_in h_23 (by omega) (by omega) (by omega) | exact zn_ext h_23 (by omega) (by omega) (by omega) (by omega) (by omega) | exact zn_out (zn_sub h_23 (by omega) (by omega) (by omega) (by omega)) (by omega) (by omega)) | (exfalso; omega)) (by omega)
      ·
        have dc_17 := i_nle c_17
        refine wp_of (uf_X5_turn_90 _ _ _ _ _ _ _ _ _ _ _ _ _ _ _ _ _ _ _) ?_
        refine wp_in1 ?_
        refine wp_of (uf_X5_comesFromStart _ _) ?_
        have n_48 : (0 : Int32).toInt = 0 := by decide
        refine wp_ifn h_14 ?_
        refine wp_so1 ?_
        show wp _ _
        generalize hz_z__50 : (mm_b false) = z__50
        have e_51 : z__50.toInt = 0 := by rw [← hz_z__50]; decide
        refine wp_if (fun c_49 => ?_) (fun c_49 => ?_)
        ·
          have dc_49 := i_eq c_49
          refine wp_in1 ?_
          refine wp_of (uf_X5_across _ _ _ _ _) ?_
          refine wp_ifp h_13 ?_
          refine wp_ck (i_inb (by omega) (by omega)) ?_
          refine wp_so1 ?_
          show wp _ _
          refine wp_bd1 (sf_X5_tallAt hN h_4 h_5 h_6 h_7 h_12 (by omega) (by omega) (by omega)) (fun r_36__52 _ => ?_)
          refine wp_ck (i_inb (by omega) (by omega)) ?_
          refine wp_in1 ?_
          refine wp_of (uf_X5_comesOver _ _) ?_
          refine wp_if (fun c_53 => ?_) (fun c_53 => ?_)
          ·
            have dc_53 := i_eq c_53
            refine wp_so1 ?_
            show wp _ _
            refine wp_ifn (by decide) ?_
            refine wp_of (uf_X5_turn_144 _ _ _ _ _ _ _ _ _ _ _ _ _ _ _ _ _ _ _) ?_
            refine wp_nm (fun y_42__54 _ => ?_)
            refine wp_ck (i_inb (by omega) (by omega)) ?_
            refine wp_nm (fun l_44__55 h_l_44__55 => ?_)
            have nl_l_44__55 : l_44__55.length = 32 := by rw [h_l_44__55, is_len]; assumption
            refine wp_ck (i_inb (by omega) (by omega)) ?_
            refine wp_nm (fun y_46__56 _ => ?_)
            refine wp_ck (i_inb (by omega) (by omega)) ?_
            refine wp_nm (fun l_48__57 h_l_48__57 => ?_)
            have nl_l_48__57 : l_48__57.length = 32 := by rw [h_l_48__57, is_len]; assumption
            refine wp_of (uf_X5_turn_188 _ _ _ _ _ _ _ _ _ _ _ _ _ _ _ _) ?_
            refine wp_in2 ?_
            refine wp_of (uf_X5_setAlong _ _ _ _ _ _) ?_
            refine wp_ifp h_13 ?_
            refine wp_ck (i_inb (by omega) (by omega)) ?_
            generalize hz_z__59 : (y_18 - x4) = z__59
            have e_60 := i_subE hz_z__59 (by omega) (by omega)
            refine wp_nm (fun l_3__58 h_l_3__58 => ?_)
            have nl_l_3__58 : l_3__58.length = 32 := by rw [h_l_3__58, is_len]; assumption
            refine wp_so2 ?_
            show wp _ _
            refine wp_nm (fun y_52__61 h_y_52__61 => ?_)
            have e_62 := i_addE h_y_52__61.symm (by omega) (by omega)
            exact ih _ _ _ _ _ _ _ _ _ _ _ _ _ h_0 h_1 h_2 h_3 h_4 h_5 h_6 h_7 nl_l_3__58 h_9 nl_l_44__55 nl_l_48__57 h_12 h_13 h_14 h_15 h_16 h_17 h_18 (by omega) (by omega) h_21 (by first | assumption | exact zn_nil (by omega) | (rw [h_l_3__58]; first | exact zn_out h_22 (by omega) (by omega) | exact zn_in h_22 (by omega) (by omega) (by omega) | exact zn_ext h_22 (by omega) (by omega) (by omega) (by omega) (by omega) | exact zn_out (zn_sub h_22 (by omega) (by omega) (by omega) (by omega)) (by omega) (by omega) | exact zn_out h_23 (by omega) (by omega) | exact zn_in h_23 (by omega) (by omega) (by omega) | exact zn_ext h_23 (by omega) (by omega) (by omega) (by omega) (by omega) | exact zn_out (zn_sub h_23 (by omega) (by omega) (by omega) (by omega)) (by omega) (by omega)) | (exfalso; omega)) (by first | assumption | exact zn_nil (by omega) | (rw [h_l_3__58]; first | exact zn_out h_22 (by omega) (by omega) | exact zn_in h_22 (by omega) (by omega) (by omega) | exact zn_ext h_22 (by omega) (by omega) (by omega) (by omega) (by omega) | exact zn_out (zn_sub h_22 (by omega) (by omega) (by omega) (by omega)) (by omega) (by omega) | exact zn_out h_23 (by omega) (by omega) | exact zn_in h_23 (by omega) (by omega) (by omega) | exact zn_ext h_23 (by omega) (by omega) (by omega) (by omega) (by omega) | exact zn_out (zn_sub h_23 (by omega) (by omega) (by omega) (by omega)) (by omega) (by omega)) | (exfalso; omega)) (by omega)
          ·
            have dc_53 := i_ne c_53
            refine wp_so1 ?_
            show wp _ _
            refine wp_ifp (by decide) ?_
            refine wp_of (uf_X5_turn_144 _ _ _ _ _ _ _ _ _ _ _ _ _ _ _ _ _ _ _) ?_
            refine wp_nm (fun y_42__63 _ => ?_)
            refine wp_ck (i_inb (by omega) (by omega)) ?_
            refine wp_nm (fun l_44__64 h_l_44__64 => ?_)
            have nl_l_44__64 : l_44__64.length = 32 := by rw [h_l_44__64, is_len]; assumption
            refine wp_ck (i_inb (by omega) (by omega)) ?_
            refine wp_nm (fun y_46__65 _ => ?_)
            refine wp_ck (i_inb (by omega) (by omega)) ?_
            refine wp_nm (fun l_48__66 h_l_48__66 => ?_)
            have nl_l_48__66 : l_48__66.length = 32 := by rw [h_l_48__66, is_len]; assumption
            refine wp_of (uf_X5_turn_188 _ _ _ _ _ _ _ _ _ _ _ _ _ _ _ _) ?_
            refine wp_in2 ?_
            refine wp_of (uf_X5_setAlong _ _ _ _ _ _) ?_
            refine wp_ifp h_13 ?_
            refine wp_ck (i_inb (by omega) (by omega)) ?_
            generalize hz_z__68 : (y_18 - x4) = z__68
            have e_69 := i_subE hz_z__68 (by omega) (by omega)
            refine wp_nm (fun l_3__67 h_l_3__67 => ?_)
            have nl_l_3__67 : l_3__67.length = 32 := by rw [h_l_3__67, is_len]; assumption
            refine wp_so2 ?_
            show wp _ _
            refine wp_nm (fun y_52__70 h_y_52__70 => ?_)
            have e_71 := i_addE h_y_52__70.symm (by omega) (by omega)
            exact ih _ _ _ _ _ _ _ _ _ _ _ _ _ h_0 h_1 h_2 h_3 h_4 h_5 h_6 h_7 nl_l_3__67 h_9 nl_l_44__64 nl_l_48__66 h_12 h_13 h_14 h_15 h_16 h_17 h_18 (by omega) (by omega) h_21 (by first | assumption | exact zn_nil (by omega) | (rw [h_l_3__67]; first | exact zn_out h_22 (by omega) (by omega) | exact zn_in h_22 (by omega) (by omega) (by omega) | exact zn_ext h_22 (by omega) (by omega) (by omega) (by omega) (by omega) | exact zn_out (zn_sub h_22 (by omega) (by omega) (by omega) (by omega)) (by omega) (by omega) | exact zn_out h_23 (by omega) (by omega) | exact zn_in h_23 (by omega) (by omega) (by omega) | exact zn_ext h_23 (by omega) (by omega) (by omega) (by omega) (by omega) | exact zn_out (zn_sub h_23 (by omega) (by omega) (by omega) (by omega)) (by omega) (by omega)) | (exfalso; omega)) (by first | assumption | exact zn_nil (by omega) | (rw [h_l_3__67]; first | exact zn_out h_22 (by omega) (by omega) | exact zn_in h_22 (by omega) (by omega) (by omega) | exact zn_ext h_22 (by omega) (by omega) (by omega) (by omega) (by omega) | exact zn_out (zn_sub h_22 (by omega) (by omega) (by omega) (by omega)) (by omega) (by omega) | exact zn_out h_23 (by omega) (by omega) | exact zn_in h_23 (by omega) (by omega) (by omega) | exact zn_ext h_23 (by omega) (by omega) (by omega) (by omega) (by omega) | exact zn_out (zn_sub h_23 (by omega) (by omega) (by omega) (by omega)) (by omega) (by omega)) | (exfalso; omega)) (by omega)
        ·
          have dc_49 := i_ne c_49
          refine wp_in1 ?_
          refine wp_of (uf_X5_comesOver _ _) ?_
          refine wp_if (fun c_72 => ?_) (fun c_72 => ?_)
          ·
            have dc_72 := i_eq c_72
            refine wp_so1 ?_
            show wp _ _
            refine wp_ifn (by decide) ?_
            refine wp_of (uf_X5_turn_188 _ _ _ _ _ _ _ _ _ _ _ _ _ _ _ _) ?_
            refine wp_in2 ?_
            refine wp_of (uf_X5_setAlong _ _ _ _ _ _) ?_
            refine wp_ifp h_13 ?_
            refine wp_ck (i_inb (by omega) (by omega)) ?_
            generalize hz_z__74 : ((mm_ig v_rowOf x5) - x4) = z__74
            have e_75 := i_subE hz_z__74 (by omega) (by omega)
            refine wp_nm (fun l_3__73 h_l_3__73 => ?_)
            have nl_l_3__73 : l_3__73.length = 32 := by rw [h_l_3__73, is_len]; assumption
            refine wp_so2 ?_
            show wp _ _
            refine wp_nm (fun y_52__76 h_y_52__76 => ?_)
            have e_77 := i_addE h_y_52__76.symm (by omega) (by omega)
            exact ih _ _ _ _ _ _ _ _ _ _ _ _ _ h_0 h_1 h_2 h_3 h_4 h_5 h_6 h_7 nl_l_3__73 h_9 h_10 h_11 h_12 h_13 h_14 h_15 h_16 h_17 h_18 (by omega) (by omega) h_21 (by first | assumption | exact zn_nil (by omega) | (rw [h_l_3__73]; first | exact zn_out h_22 (by omega) (by omega) | exact zn_in h_22 (by omega) (by omega) (by omega) | exact zn_ext h_22 (by omega) (by omega) (by omega) (by omega) (by omega) | exact zn_out (zn_sub h_22 (by omega) (by omega) (by omega) (by omega)) (by omega) (by omega) | exact zn_out h_23 (by omega) (by omega) | exact zn_in h_23 (by omega) (by omega) (by omega) | exact zn_ext h_23 (by omega) (by omega) (by omega) (by omega) (by omega) | exact zn_out (zn_sub h_23 (by omega) (by omega) (by omega) (by omega)) (by omega) (by omega)) | (exfalso; omega)) (by first | assumption | exact zn_nil (by omega) | (rw [h_l_3__73]; first | exact zn_out h_22 (by omega) (by omega) | exact zn_in h_22 (by omega) (by omega) (by omega) | exact zn_ext h_22 (by omega) (by omega) (by omega) (by omega) (by omega) | exact zn_out (zn_sub h_22 (by omega) (by omega) (by omega) (by omega)) (by omega) (by omega) | exact zn_out h_23 (by omega) (by omega) | exact zn_in h_23 (by omega) (by omega) (by omega) | exact zn_ext h_23 (by omega) (by omega) (by omega) (by omega) (by omega) | exact zn_out (zn_sub h_23 (by omega) (by omega) (by omega) (by omega)) (by omega) (by omega)) | (exfalso; omega)) (by omega)
          ·
            have dc_72 := i_ne c_72
            refine wp_so1 ?_
            show wp _ _
            refine wp_ifp (by decide) ?_
            refine wp_ck (i_inb (by omega) (by omega)) ?_
            refine wp_nm (fun y_31__78 _ => ?_)
            refine wp_ck (i_inb (by omega) (by omega)) ?_
            refine wp_nm (fun l_33__79 h_l_33__79 => ?_)
            have nl_l_33__79 : l_33__79.length = 32 := by rw [h_l_33__79, is_len]; assumption
            refine wp_of (uf_X5_turn_188 _ _ _ _ _ _ _ _ _ _ _ _ _ _ _ _) ?_
            refine wp_in2 ?_
            refine wp_of (uf_X5_setAlong _ _ _ _ _ _) ?_
            refine wp_ifp h_13 ?_
            refine wp_ck (i_inb (by omega) (by omega)) ?_
            generalize hz_z__81 : ((mm_ig v_rowOf x5) - x4) = z__81
            have e_82 := i_subE hz_z__81 (by omega) (by omega)
            refine wp_nm (fun l_3__80 h_l_3__80 => ?_)
            have nl_l_3__80 : l_3__80.length = 32 := by rw [h_l_3__80, is_len]; assumption
            refine wp_so2 ?_
            show wp _ _
            refine wp_nm (fun y_52__83 h_y_52__83 => ?_)
            have e_84 := i_addE h_y_52__83.symm (by omega) (by omega)
            exact ih _ _ _ _ _ _ _ _ _ _ _ _ _ h_0 h_1 h_2 h_3 h_4 h_5 h_6 h_7 nl_l_3__80 h_9 nl_l_33__79 h_11 h_12 h_13 h_14 h_15 h_16 h_17 h_18 (by omega) (by omega) h_21 (by first | assumption | exact zn_nil (by omega) | (rw [h_l_3__80]; first | exact zn_out h_22 (by omega) (by omega) | exact zn_in h_22 (by omega) (by omega) (by omega) | exact zn_ext h_22 (by omega) (by omega) (by omega) (by omega) (by omega) | exact zn_out (zn_sub h_22 (by omega) (by omega) (by omega) (by omega)) (by omega) (by omega) | exact zn_out h_23 (by omega) (by omega) | exact zn_in h_23 (by omega) (by omega) (by omega) | exact zn_ext h_23 (by omega) (by omega) (by omega) (by omega) (by omega) | exact zn_out (zn_sub h_23 (by omega) (by omega) (by omega) (by omega)) (by omega) (by omega)) | (exfalso; omega)) (by first | assumption | exact zn_nil (by omega) | (rw [h_l_3__80]; first | exact zn_out h_22 (by omega) (by omega) | exact zn_in h_22 (by omega) (by omega) (by omega) | exact zn_ext h_22 (by omega) (by omega) (by omega) (by omega) (by omega) | exact zn_out (zn_sub h_22 (by omega) (by omega) (by omega) (by omega)) (by omega) (by omega) | exact zn_out h_23 (by omega) (by omega) | exact zn_in h_23 (by omega) (by omega) (by omega) | exact zn_ext h_23 (by omega) (by omega) (by omega) (by omega) (by omega) | exact zn_out (zn_sub h_23 (by omega) (by omega) (by omega) (by omega)) (by omega) (by omega)) | (exfalso; omega)) (by omega)

set_option maxHeartbeats 4000000 in
set_option maxRecDepth 20000 in
theorem sf_X5_turn_35_cs {N : Nat} (hN : 700 ≤ N)  : ∀ (n : Nat) (x1 : Int32) (x2 : Int32) (x4 : Int32) (x5 : Int32) (v_rows : Int32) (v_cols : Int32) (v_high : Int32) (v_wide : Int32) (v_rowOf : List Int32) (v_colOf : List Int32) (v_below : List Int32) (v_face : List Int32) (v_tall : List Int32), 1 ≤ v_rows.toInt → v_rows.toInt ≤ 4 → 1 ≤ v_cols.toInt → v_cols.toInt ≤ 8 → 1 ≤ v_high.toInt → v_high.toInt ≤ 4 → 1 ≤ v_wide.toInt → v_wide.toInt ≤ 8 → v_rowOf.length = 32 → v_colOf.length = 32 → v_below.length = 32 → v_face.length = 32 → v_tall.length = 32 → ¬ ((4 : Int32) ≤ x2) → ((x2 &&& (2 : Int32)) = (0 : Int32)) → 1 ≤ x1.toInt → x1.toInt < v_wide.toInt → x2.toInt < 4 → x4.toInt = x1.toInt → 0 ≤ x5.toInt → x5.toInt ≤ v_rows.toInt * v_cols.toInt → zn v_rowOf 0 (v_rows.toInt * v_cols.toInt) 0 v_high.toInt → zn v_colOf 0 x5.toInt 0 (max x1.toInt (v_wide.toInt - x1.toInt)) → zn v_colOf x5.toInt (v_rows.toInt * v_cols.toInt) 0 v_wide.toInt → (v_rows.toInt * v_cols.toInt - x5.toInt).toNat < n → wp (fX5_turn_35 N n x1 x2 x4 x5 v_rows v_cols v_high v_wide v_rowOf v_colOf v_below v_face v_tall) (cu7 (fun (wv_high : Int32) (wv_wide : Int32) (wv_rowOf : List Int32) (wv_colOf : List Int32) (wv_below : List Int32) (wv_face : List Int32) (wv_tall : List Int32) => 1 ≤ wv_high.toInt ∧ wv_high.toInt ≤ 4 ∧ 1 ≤ wv_wide.toInt ∧ wv_wide.toInt ≤ 8 ∧ wv_rowOf.length = 32 ∧ wv_colOf.length = 32 ∧ wv_below.length = 32 ∧ wv_face.length = 32 ∧ wv_tall.length = 32 ∧ zn wv_rowOf 0 (v_rows.toInt * v_cols.toInt) 0 wv_high.toInt ∧ zn wv_colOf 0 (v_rows.toInt * v_cols.toInt) 0 wv_wide.toInt)) := by
  intro n
  induction n with
  | zero =>
    intro x1 x2 x4 x5 v_rows v_cols v_high v_wide v_rowOf v_colOf v_below v_face v_tall h_0 h_1 h_2 h_3 h_4 h_5 h_6 h_7 h_8 h_9 h_10 h_11 h_12 h_13 h_14 h_15 h_16 h_17 h_18 h_19 h_20 h_21 h_22 h_23 hm
    exact absurd hm (by omega)
  | succ n ih =>
    intro x1 x2 x4 x5 v_rows v_cols v_high v_wide v_rowOf v_colOf v_below v_face v_tall h_0 h_1 h_2 h_3 h_4 h_5 h_6 h_7 h_8 h_9 h_10 h_11 h_12 h_13 h_14 h_15 h_16 h_17 h_18 h_19 h_20 h_21 h_22 h_23 hm
    have m3 := (i_fl (a := v_rows) (b := v_cols) (by omega) (by omega) (by omega) (by omega)).2
    refine wp_of (uf_X5_turn_35 _ _ _ _ _ _ _ _ _ _ _ _ _ _ _) ?_
    refine wp_bd1 (sf_X5_fields hN h_0 h_1 h_2 h_3) (fun r_8 ⟨q_1, q_2, q_3⟩ => ?_)
    refine wp_if (fun c_4 => ?_) (fun c_4 => ?_)
    ·
      have dc_4 := i_le c_4
      refine wp_in1 ?_
      refine wp_of (uf_X5_spanBehind _ _ _ _ _) ?_
      refine wp_in1 ?_
      refine wp_of (uf_X5_span _ _ _ _) ?_
      refine wp_ifn h_13 ?_
      refine wp_so1 ?_
      show wp _ _
      refine wp_so1 ?_
      show wp _ _
      refine wp_in2 ?_
      refine wp_of (uf_X5_narrow _ _ _ _ _) ?_
      refine wp_ifn h_13 ?_
      refine wp_so2 ?_
      show wp _ _
      generalize hz_z : (v_wide - x1) = z
      have e_5 := i_subE hz_z (by omega) (by omega)
      generalize hz_z__6 : (mm_max x1 z) = z__6
      have e_7 := i_maxY hz_z__6
      exact wp_so7 ⟨h_4, h_5, (by omega), (by omega), h_8, h_9, h_10, h_11, h_12, h_21, (by first | assumption | exact zn_nil (by omega) | exact zn_sub h_22 (by omega) (by omega) (by omega) (by omega) | exact zn_sub h_23 (by omega) (by omega) (by omega) (by omega) | (exfalso; omega))⟩
    ·
      have dc_4 := i_nle c_4
      refine wp_in1 ?_
      refine wp_of (uf_X5_along _ _ _ _ _) ?_
      refine wp_ifn h_13 ?_
      refine wp_ck (i_inb (by omega) (by omega)) ?_
      refine wp_so1 ?_
      show wp _ _
      have n_8 : (2 : Int32).toInt = 2 := by decide
      generalize hz_z__9 : ((2 : Int32) * x1) = z__9
      have e_10 := i_mulLE (c := 2) (by decide) hz_z__9 (by omega) (by omega)
      have n_11 : (1 : Int32).toInt = 1 := by decide
      generalize hz_z__12 : (z__9 - (1 : Int32)) = z__12
      have e_13 := i_subE hz_z__12 (by omega) (by omega)
      obtain ⟨e_14, e1_14⟩ := zn_get h_23 (i := x5) (by omega) (by omega) (by omega) (by omega)
      refine wp_nm (fun y_18 h_y_18 => ?_)
      have e_15 := i_subE h_y_18.symm (by omega) (by omega)
      refine wp_in1 ?_
      refine wp_of (uf_X5_across _ _ _ _ _) ?_
      refine wp_ifn h_13 ?_
      refine wp_ck (i_inb (by omega) (by omega)) ?_
      refine wp_so1 ?_
      show wp _ _
      obtain ⟨e_16, e1_16⟩ := zn_get h_21 (i := x5) (by omega) (by omega) (by omega) (by omega)
      refine wp_bd1 (sf_X5_tallAt hN h_4 h_5 h_6 h_7 h_12 (by omega) (by omega) (by omega)) (fun r_21 _ => ?_)
      refine wp_if (fun c_17 => ?_) (fun c_17 => ?_)
      ·
        have dc_17 := i_le c_17
        refine wp_of (uf_X5_turn_90 _ _ _ _ _ _ _ _ _ _ _ _ _ _ _ _ _ _ _) ?_
        refine wp_in1 ?_
        refine wp_of (uf_X5_comesFromStart _ _) ?_
        have n_19 : (0 : Int32).toInt = 0 := by decide
        refine wp_ifp h_14 ?_
        refine wp_so1 ?_
        show wp _ _
        generalize hz_z__21 : (mm_b true) = z__21
        have e_22 : z__21.toInt = 1 := by rw [← hz_z__21]; decide
        refine wp_if (fun c_20 => ?_) (fun c_20 => ?_)
        ·
          have dc_20 := i_eq c_20
          refine wp_in1 ?_
          refine wp_of (uf_X5_across _ _ _ _ _) ?_
          refine wp_ifn h_13 ?_
          refine wp_ck (i_inb (by omega) (by omega)) ?_
          refine wp_so1 ?_
          show wp _ _
          refine wp_bd1 (sf_X5_tallAt hN h_4 h_5 h_6 h_7 h_12 (by omega) (by omega) (by omega)) (fun r_36 _ => ?_)
          refine wp_ck (i_inb (by omega) (by omega)) ?_
          refine wp_in1 ?_
          refine wp_of (uf_X5_comesOver _ _) ?_
          refine wp_if (fun c_23 => ?_) (fun c_23 => ?_)
          ·
            have dc_23 := i_eq c_23
            refine wp_so1 ?_
            show wp _ _
            refine wp_ifn (by decide) ?_
            refine wp_of (uf_X5_turn_144 _ _ _ _ _ _ _ _ _ _ _ _ _ _ _ _ _ _ _) ?_
            refine wp_nm (fun y_42 _ => ?_)
            refine wp_ck (i_inb (by omega) (by omega)) ?_
            refine wp_nm (fun l_44 h_l_44 => ?_)
            have nl_l_44 : l_44.length = 32 := by rw [h_l_44, is_len]; assumption
            refine wp_ck (i_inb (by omega) (by omega)) ?_
            refine wp_nm (fun y_46 _ => ?_)
            refine wp_ck (i_inb (by omega) (by omega)) ?_
            refine wp_nm (fun l_48 h_l_48 => ?_)
            have nl_l_48 : l_48.length = 32 := by rw [h_l_48, is_len]; assumption
            refine wp_of (uf_X5_turn_188 _ _ _ _ _ _ _ _ _ _ _ _ _ _ _ _) ?_
            refine wp_in2 ?_
            refine wp_of (uf_X5_setAlong _ _ _ _ _ _) ?_
            refine wp_ifn h_13 ?_
            refine wp_ck (i_inb (by omega) (by omega)) ?_
            generalize hz_z__24 : (y_18 - x4) = z__24
            have e_25 := i_subE hz_z__24 (by omega) (by omega)
            refine wp_nm (fun l_5 h_l_5 => ?_)
            have nl_l_5 : l_5.length = 32 := by rw [h_l_5, is_len]; assumption
            refine wp_so2 ?_
            show wp _ _
            refine wp_nm (fun y_52 h_y_52 => ?_)
            have e_26 := i_addE h_y_52.symm (by omega) (by omega)
            exact ih _ _ _ _ _ _ _ _ _ _ _ _ _ h_0 h_1 h_2 h_3 h_4 h_5 h_6 h_7 h_8 nl_l_5 nl_l_44 nl_l_48 h_12 h_13 h_14 h_15 h_16 h_17 h_18 (by omega) (by omega) h_21 (by first | assumption | exact zn_nil (by omega) | (rw [h_l_5]; first | exact zn_out h_22 (by omega) (by omega) | exact zn_in h_22 (by omega) (by omega) (by omega) | exact zn_ext h_22 (by omega) (by omega) (by omega) (by omega) (by omega) | exact zn_out (zn_sub h_22 (by omega) (by omega) (by omega) (by omega)) (by omega) (by omega) | exact zn_out h_23 (by omega) (by omega) | exact zn_in h_23 (by omega) (by omega) (by omega) | exact zn_ext h_23 (by omega) (by omega) (by omega) (by omega) (by omega) | exact zn_out (zn_sub h_23 (by omega) (by omega) (by omega) (by omega)) (by omega) (by omega)) | (exfalso; omega)) (by first | assumption | exact zn_nil (by omega) | (rw [h_l_5]; first | exact zn_out h_22 (by omega) (by omega) | exact zn_in h_22 (by omega) (by omega) (by omega) | exact zn_ext h_22 (by omega) (by omega) (by omega) (by omega) (by omega) | exact zn_out (zn_sub h_22 (by omega) (by omega) (by omega) (by omega)) (by omega) (by omega) | exact zn_out h_23 (by omega) (by omega) | exact zn_in h_23 (by omega) (by omega) (by omega) | exact zn_ext h_23 (by omega) (by omega) (by omega) (by omega) (by omega) | exact zn_out (zn_sub h_23 (by omega) (by omega) (by omega) (by omega)) (by omega) (by omega)) | (exfalso; omega)) (by omega)
          ·
            have dc_23 := i_ne c_23
            refine wp_so1 ?_
            show wp _ _
            refine wp_ifp (by decide) ?_
            refine wp_of (uf_X5_turn_144 _ _ _ _ _ _ _ _ _ _ _ _ _ _ _ _ _ _ _) ?_
            refine wp_nm (fun y_42__27 _ => ?_)
            refine wp_ck (i_inb (by omega) (by omega)) ?_
            refine wp_nm (fun l_44__28 h_l_44__28 => ?_)
            have nl_l_44__28 : l_44__28.length = 32 := by rw [h_l_44__28, is_len]; assumption
            refine wp_ck (i_inb (by omega) (by omega)) ?_
            refine wp_nm (fun y_46__29 _ => ?_)
            refine wp_ck (i_inb (by omega) (by omega)) ?_
            refine wp_nm (fun l_48__30 h_l_48__30 => ?_)
            have nl_l_48__30 : l_48__30.length = 32 := by rw [h_l_48__30, is_len]; assumption
            refine wp_of (uf_X5_turn_188 _ _ _ _ _ _ _ _ _ _ _ _ _ _ _ _) ?_
            refine wp_in2 ?_
            refine wp_of (uf_X5_setAlong _ _ _ _ _ _) ?_
            refine wp_ifn h_13 ?_
            refine wp_ck (i_inb (by omega) (by omega)) ?_
            generalize hz_z__32 : (y_18 - x4) = z__32
            have e_33 := i_subE hz_z__32 (by omega) (by omega)
            refine wp_nm (fun l_5__31 h_l_5__31 => ?_)
            have nl_l_5__31 : l_5__31.length = 32 := by rw [h_l_5__31, is_len]; assumption
            refine wp_so2 ?_
            show wp _ _
            refine wp_nm (fun y_52__34 h_y_52__34 => ?_)
            have e_35 := i_addE h_y_52__34.symm (by omega) (by omega)
            exact ih _ _ _ _ _ _ _ _ _ _ _ _ _ h_0 h_1 h_2 h_3 h_4 h_5 h_6 h_7 h_8 nl_l_5__31 nl_l_44__28 nl_l_48__30 h_12 h_13 h_14 h_15 h_16 h_17 h_18 (by omega) (by omega) h_21 (by first | assumption | exact zn_nil (by omega) | (rw [h_l_5__31]; first | exact zn_out h_22 (by omega) (by omega) | exact zn_in h_22 (by omega) (by omega) (by omega) | exact zn_ext h_22 (by omega) (by omega) (by omega) (by omega) (by omega) | exact zn_out (zn_sub h_22 (by omega) (by omega) (by omega) (by omega)) (by omega) (by omega) | exact zn_out h_23 (by omega) (by omega) | exact zn_in h_23 (by omega) (by omega) (by omega) | exact zn_ext h_23 (by omega) (by omega) (by omega) (by omega) (by omega) | exact zn_out (zn_sub h_23 (by omega) (by omega) (by omega) (by omega)) (by omega) (by omega)) | (exfalso; omega)) (by first | assumption | exact zn_nil (by omega) | (rw [h_l_5__31]; first | exact zn_out h_22 (by omega) (by omega) | exact zn_in h_22 (by omega) (by omega) (by omega) | exact zn_ext h_22 (by omega) (by omega) (by omega) (by omega) (by omega) | exact zn_out (zn_sub h_22 (by omega) (by omega) (by omega) (by omega)) (by omega) (by omega) | exact zn_out h_23 (by omega) (by omega) | exact zn_in h_23 (by omega) (by omega) (by omega) | exact zn_ext h_23 (by omega) (by omega) (by omega) (by omega) (by omega) | exact zn_out (zn_sub h_23 (by omega) (by omega) (by omega) (by omega)) (by omega) (by omega)) | (exfalso; omega)) (by omega)
        ·
          have dc_20 := i_ne c_20
          refine wp_in1 ?_
          refine wp_of (uf_X5_comesOver _ _) ?_
          refine wp_if (fun c_36 => ?_) (fun c_36 => ?_)
          ·
            have dc_36 := i_eq c_36
            refine wp_so1 ?_
            show wp _ _
            refine wp_ifn (by decide) ?_
            refine wp_of (uf_X5_turn_188 _ _ _ _ _ _ _ _ _ _ _ _ _ _ _ _) ?_
            refine wp_in2 ?_
            refine wp_of (uf_X5_setAlong _ _ _ _ _ _) ?_
            refine wp_ifn h_13 ?_
            refine wp_ck (i_inb (by omega) (by omega)) ?_
            generalize hz_z__38 : ((mm_ig v_colOf x5) - x4) = z__38
            have e_39 := i_subE hz_z__38 (by omega) (by omega)
            refine wp_nm (fun l_5__37 h_l_5__37 => ?_)
            have nl_l_5__37 : l_5__37.length = 32 := by rw [h_l_5__37, is_len]; assumption
            refine wp_so2 ?_
            show wp _ _
            refine wp_nm (fun y_52__40 h_y_52__40 => ?_)
            have e_41 := i_addE h_y_52__40.symm (by omega) (by omega)
            exact ih _ _ _ _ _ _ _ _ _ _ _ _ _ h_0 h_1 h_2 h_3 h_4 h_5 h_6 h_7 h_8 nl_l_5__37 h_10 h_11 h_12 h_13 h_14 h_15 h_16 h_17 h_18 (by omega) (by omega) h_21 (by first | assumption | exact zn_nil (by omega) | (rw [h_l_5__37]; first | exact zn_out h_22 (by omega) (by omega) | exact zn_in h_22 (by omega) (by omega) (by omega) | exact zn_ext h_22 (by omega) (by omega) (by omega) (by omega) (by omega) | exact zn_out (zn_sub h_22 (by omega) (by omega) (by omega) (by omega)) (by omega) (by omega) | exact zn_out h_23 (by omega) (by omega) | exact zn_in h_23 (by omega) (by omega) (by omega) | exact zn_ext h_23 (by omega) (by omega) (by omega) (by omega) (by omega) | exact zn_out (zn_sub h_23 (by omega) (by omega) (by omega) (by omega)) (by omega) (by omega)) | (exfalso; omega)) (by first | assumption | exact zn_nil (by omega) | (rw [h_l_5__37]; first | exact zn_out h_22 (by omega) (by omega) | exact zn_in h_22 (by omega) (by omega) (by omega) | exact zn_ext h_22 (by omega) (by omega) (by omega) (by omega) (by omega) | exact zn_out (zn_sub h_22 (by omega) (by omega) (by omega) (by omega)) (by omega) (by omega) | exact zn_out h_23 (by omega) (by omega) | exact zn_in h_23 (by omega) (by omega) (by omega) | exact zn_ext h_23 (by omega) (by omega) (by omega) (by omega) (by omega) | exact zn_out (zn_sub h_23 (by omega) (by omega) (by omega) (by omega)) (by omega) (by omega)) | (exfalso; omega)) (by omega)
          ·
            have dc_36 := i_ne c_36
            refine wp_so1 ?_
            show wp _ _
            refine wp_ifp (by decide) ?_
            refine wp_ck (i_inb (by omega) (by omega)) ?_
            refine wp_nm (fun y_31 _ => ?_)
            refine wp_ck (i_inb (by omega) (by omega)) ?_
            refine wp_nm (fun l_33 h_l_33 => ?_)
            have nl_l_33 : l_33.length = 32 := by rw [h_l_33, is_len]; assumption
            refine wp_of (uf_X5_turn_188 _ _ _ _ _ _ _ _ _ _ _ _ _ _ _ _) ?_
            refine wp_in2 ?_
            refine wp_of (uf_X5_setAlong _ _ _ _ _ _) ?_
            refine wp_ifn h_13 ?_
            refine wp_ck (i_inb (by omega) (by omega)) ?_
            generalize hz_z__43 : ((mm_ig v_colOf x5) - x4) = z__43
            have e_44 := i_subE hz_z__43 (by omega) (by omega)
            refine wp_nm (fun l_5__42 h_l_5__42 => ?_)
            have nl_l_5__42 : l_5__42.length = 32 := by rw [h_l_5__42, is_len]; assumption
            refine wp_so2 ?_
            show wp _ _
            refine wp_nm (fun y_52__45 h_y_52__45 => ?_)
            have e_46 := i_addE h_y_52__45.symm (by omega) (by omega)
            exact ih _ _ _ _ _ _ _ _ _ _ _ _ _ h_0 h_1 h_2 h_3 h_4 h_5 h_6 h_7 h_8 nl_l_5__42 nl_l_33 h_11 h_12 h_13 h_14 h_15 h_16 h_17 h_18 (by omega) (by omega) h_21 (by first | assumption | exact zn_nil (by omega) | (rw [h_l_5__42]; first | exact zn_out h_22 (by omega) (by omega) | exact zn_in h_22 (by omega) (by omega) (by omega) | exact zn_ext h_22 (by omega) (by omega) (by omega) (by omega) (by omega) | exact zn_out (zn_sub h_22 (by omega) (by omega) (by omega) (by omega)) (by omega) (by omega) | exact zn_out h_23 (by omega) (by omega) | exact zn_in h_23 (by omega) (by omega) (by omega) | exact zn_ext h_23 (by omega) (by omega) (by omega) (by omega) (by omega) | exact zn_out (zn_sub h_23 (by omega) (by omega) (by omega) (by omega)) (by omega) (by omega)) | (exfalso; omega)) (by first | assumption | exact zn_nil (by omega) | (rw [h_l_5__42]; first | exact zn_out h_22 (by omega) (by omega) | exact zn_in h_22 (by omega) (by omega) (by omega) | exact zn_ext h_22 (by omega) (by omega) (by omega) (by omega) (by omega) | exact zn_out (zn_sub h_22 (by omega) (by omega) (by omega) (by omega)) (by omega) (by omega) | exact zn_out h_23 (by omega) (by omega) | exact zn_in h_23 (by omega) (by omega) (by omega) | exact zn_ext h_23 (by omega) (by omega) (by omega) (by omega) (by omega) | exact zn_out (zn_sub h_23 (by omega) (by omega) (by omega) (by omega)) (by omega) (by omega)) | (exfalso; omega)) (by omega)
      ·
        have dc_17 := i_nle c_17
        refine wp_of (uf_X5_turn_90 _ _ _ _ _ _ _ _ _ _ _ _ _ _ _ _ _ _ _) ?_
        refine wp_in1 ?_
        refine wp_of (uf_X5_comesFromStart _ _) ?_
        have n_48 : (0 : Int32).toInt = 0 := by decide
        refine wp_ifp h_14 ?_
        refine wp_so1 ?_
        show wp _ _
        generalize hz_z__50 : (mm_b true) = z__50
        have e_51 : z__50.toInt = 1 := by rw [← hz_z__50]; decide
        refine wp_if (fun c_49 => ?_) (fun c_49 => ?_)
        ·
          have dc_49 := i_eq c_49
          refine wp_in1 ?_
          refine wp_of (uf_X5_across _ _ _ _ _) ?_
          refine wp_ifn h_13 ?_
          refine wp_ck (i_inb (by omega) (by omega)) ?_
          refine wp_so1 ?_
          show wp _ _
          refine wp_bd1 (sf_X5_tallAt hN h_4 h_5 h_6 h_7 h_12 (by omega) (by omega) (by omega)) (fun r_36__52 _ => ?_)
          refine wp_ck (i_inb (by omega) (by omega)) ?_
          refine wp_in1 ?_
          refine wp_of (uf_X5_comesOver _ _) ?_
          refine wp_if (fun c_53 => ?_) (fun c_53 => ?_)
          ·
            have dc_53 := i_eq c_53
            refine wp_so1 ?_
            show wp _ _
            refine wp_ifn (by decide) ?_
            refine wp_of (uf_X5_turn_144 _ _ _ _ _ _ _ _ _ _ _ _ _ _ _ _ _ _ _) ?_
            refine wp_nm (fun y_42__54 _ => ?_)
            refine wp_ck (i_inb (by omega) (by omega)) ?_
            refine wp_nm (fun l_44__55 h_l_44__55 => ?_)
            have nl_l_44__55 : l_44__55.length = 32 := by rw [h_l_44__55, is_len]; assumption
            refine wp_ck (i_inb (by omega) (by omega)) ?_
            refine wp_nm (fun y_46__56 _ => ?_)
            refine wp_ck (i_inb (by omega) (by omega)) ?_
            refine wp_nm (fun l_48__57 h_l_48__57 => ?_)
            have nl_l_48__57 : l_48__57.length = 32 := by rw [h_l_48__57, is_len]; assumption
            refine wp_of (uf_X5_turn_188 _ _ _ _ _ _ _ _ _ _ _ _ _ _ _ _) ?_
            refine wp_in2 ?_
            refine wp_of (uf_X5_setAlong _ _ _ _ _ _) ?_
            refine wp_ifn h_13 ?_
            refine wp_ck (i_inb (by omega) (by omega)) ?_
            generalize hz_z__59 : (y_18 - x4) = z__59
            have e_60 := i_subE hz_z__59 (by omega) (by omega)
            refine wp_nm (fun l_5__58 h_l_5__58 => ?_)
            have nl_l_5__58 : l_5__58.length = 32 := by rw [h_l_5__58, is_len]; assumption
            refine wp_so2 ?_
            show wp _ _
            refine wp_nm (fun y_52__61 h_y_52__61 => ?_)
            have e_62 := i_addE h_y_52__61.symm (by omega) (by omega)
            exact ih _ _ _ _ _ _ _ _ _ _ _ _ _ h_0 h_1 h_2 h_3 h_4 h_5 h_6 h_7 h_8 nl_l_5__58 nl_l_44__55 nl_l_48__57 h_12 h_13 h_14 h_15 h_16 h_17 h_18 (by omega) (by omega) h_21 (by first | assumption | exact zn_nil (by omega) | (rw [h_l_5__58]; first | exact zn_out h_22 (by omega) (by omega) | exact zn_in h_22 (by omega) (by omega) (by omega) | exact zn_ext h_22 (by omega) (by omega) (by omega) (by omega) (by omega) | exact zn_out (zn_sub h_22 (by omega) (by omega) (by omega) (by omega)) (by omega) (by omega) | exact zn_out h_23 (by omega) (by omega) | exact zn_in h_23 (by omega) (by omega) (by omega) | exact zn_ext h_23 (by omega) (by omega) (by omega) (by omega) (by omega) | exact zn_out (zn_sub h_23 (by omega) (by omega) (by omega) (by omega)) (by omega) (by omega)) | (exfalso; omega)) (by first | assumption | exact zn_nil (by omega) | (rw [h_l_5__58]; first | exact zn_out h_22 (by omega) (by omega) | exact zn_in h_22 (by omega) (by omega) (by omega) | exact zn_ext h_22 (by omega) (by omega) (by omega) (by omega) (by omega) | exact zn_out (zn_sub h_22 (by omega) (by omega) (by omega) (by omega)) (by omega) (by omega) | exact zn_out h_23 (by omega) (by omega) | exact zn_in h_23 (by omega) (by omega) (by omega) | exact zn_ext h_23 (by omega) (by omega) (by omega) (by omega) (by omega) | exact zn_out (zn_sub h_23 (by omega) (by omega) (by omega) (by omega)) (by omega) (by omega)) | (exfalso; omega)) (by omega)
          ·
            have dc_53 := i_ne c_53
            refine wp_so1 ?_
            show wp _ _
            refine wp_ifp (by decide) ?_
            refine wp_of (uf_X5_turn_144 _ _ _ _ _ _ _ _ _ _ _ _ _ _ _ _ _ _ _) ?_
            refine wp_nm (fun y_42__63 _ => ?_)
            refine wp_ck (i_inb (by omega) (by omega)) ?_
            refine wp_nm (fun l_44__64 h_l_44__64 => ?_)
            have nl_l_44__64 : l_44__64.length = 32 := by rw [h_l_44__64, is_len]; assumption
            refine wp_ck (i_inb (by omega) (by omega)) ?_
            refine wp_nm (fun y_46__65 _ => ?_)
            refine wp_ck (i_inb (by omega) (by omega)) ?_
            refine wp_nm (fun l_48__66 h_l_48__66 => ?_)
            have nl_l_48__66 : l_48__66.length = 32 := by rw [h_l_48__66, is_len]; assumption
            refine wp_of (uf_X5_turn_188 _ _ _ _ _ _ _ _ _ _ _ _ _ _ _ _) ?_
            refine wp_in2 ?_
            refine wp_of (uf_X5_setAlong _ _ _ _ _ _) ?_
            refine wp_ifn h_13 ?_
            refine wp_ck (i_inb (by omega) (by omega)) ?_
            generalize hz_z__68 : (y_18 - x4) = z__68
            have e_69 := i_subE hz_z__68 (by omega) (by omega)
            refine wp_nm (fun l_5__67 h_l_5__67 => ?_)
            have nl_l_5__67 : l_5__67.length = 32 := by rw [h_l_5__67, is_len]; assumption
            refine wp_so2 ?_
            show wp _ _
            refine wp_nm (fun y_52__70 h_y_52__70 => ?_)
            have e_71 := i_addE h_y_52__70.symm (by omega) (by omega)
            exact ih _ _ _ _ _ _ _ _ _ _ _ _ _ h_0 h_1 h_2 h_3 h_4 h_5 h_6 h_7 h_8 nl_l_5__67 nl_l_44__64 nl_l_48__66 h_12 h_13 h_14 h_15 h_16 h_17 h_18 (by omega) (by omega) h_21 (by first | assumption | exact zn_nil (by omega) | (rw [h_l_5__67]; first | exact zn_out h_22 (by omega) (by omega) | exact zn_in h_22 (by omega) (by omega) (by omega) | exact zn_ext h_22 (by omega) (by omega) (by omega) (by omega) (by omega) | exact zn_out (zn_sub h_22 (by omega) (by omega) (by omega) (by omega)) (by omega) (by omega) | exact zn_out h_23 (by omega) (by omega) | exact zn_in h_23 (by omega) (by omega) (by omega) | exact zn_ext h_23 (by omega) (by omega) (by omega) (by omega) (by omega) | exact zn_out (zn_sub h_23 (by omega) (by omega) (by omega) (by omega)) (by omega) (by omega)) | (exfalso; omega)) (by first | assumption | exact zn_nil (by omega) | (rw [h_l_5__67]; first | exact zn_out h_22 (by omega) (by omega) | exact zn_in h_22 (by omega) (by omega) (by omega) | exact zn_ext h_22 (by omega) (by omega) (by omega) (by omega) (by omega) | exact zn_out (zn_sub h_22 (by omega) (by omega) (by omega) (by omega)) (by omega) (by omega) | exact zn_out h_23 (by omega) (by omega) | exact zn_in h_23 (by omega) (by omega) (by omega) | exact zn_ext h_23 (by omega) (by omega) (by omega) (by omega) (by omega) | exact zn_out (zn_sub h_23 (by omega) (by omega) (by omega) (by omega)) (by omega) (by omega)) | (exfalso; omega)) (by omega)
        ·
          have dc_49 := i_ne c_49
          refine wp_in1 ?_
          refine wp_of (uf_X5_comesOver _ _) ?_
          refine wp_if (fun c_72 => ?_) (fun c_72 => ?_)
          ·
            have dc_72 := i_eq c_72
            refine wp_so1 ?_
            show wp _ _
            refine wp_ifn (by decide) ?_
            refine wp_of (uf_X5_turn_188 _ _ _ _ _ _ _ _ _ _ _ _ _ _ _ _) ?_
            refine wp_in2 ?_
            refine wp_of (uf_X5_setAlong _ _ _ _ _ _) ?_
            refine wp_ifn h_13 ?_
            refine wp_ck (i_inb (by omega) (by omega)) ?_
            generalize hz_z__74 : ((mm_ig v_colOf x5) - x4) = z__74
            have e_75 := i_subE hz_z__74 (by omega) (by omega)
            refine wp_nm (fun l_5__73 h_l_5__73 => ?_)
            have nl_l_5__73 : l_5__73.length = 32 := by rw [h_l_5__73, is_len]; assumption
            refine wp_so2 ?_
            show wp _ _
            refine wp_nm (fun y_52__76 h_y_52__76 => ?_)
            have e_77 := i_addE h_y_52__76.symm (by omega) (by omega)
            exact ih _ _ _ _ _ _ _ _ _ _ _ _ _ h_0 h_1 h_2 h_3 h_4 h_5 h_6 h_7 h_8 nl_l_5__73 h_10 h_11 h_12 h_13 h_14 h_15 h_16 h_17 h_18 (by omega) (by omega) h_21 (by first | assumption | exact zn_nil (by omega) | (rw [h_l_5__73]; first | exact zn_out h_22 (by omega) (by omega) | exact zn_in h_22 (by omega) (by omega) (by omega) | exact zn_ext h_22 (by omega) (by omega) (by omega) (by omega) (by omega) | exact zn_out (zn_sub h_22 (by omega) (by omega) (by omega) (by omega)) (by omega) (by omega) | exact zn_out h_23 (by omega) (by omega) | exact zn_in h_23 (by omega) (by omega) (by omega) | exact zn_ext h_23 (by omega) (by omega) (by omega) (by omega) (by omega) | exact zn_out (zn_sub h_23 (by omega) (by omega) (by omega) (by omega)) (by omega) (by omega)) | (exfalso; omega)) (by first | assumption | exact zn_nil (by omega) | (rw [h_l_5__73]; first | exact zn_out h_22 (by omega) (by omega) | exact zn_in h_22 (by omega) (by omega) (by omega) | exact zn_ext h_22 (by omega) (by omega) (by omega) (by omega) (by omega) | exact zn_out (zn_sub h_22 (by omega) (by omega) (by omega) (by omega)) (by omega) (by omega) | exact zn_out h_23 (by omega) (by omega) | exact zn_in h_23 (by omega) (by omega) (by omega) | exact zn_ext h_23 (by omega) (by omega) (by omega) (by omega) (by omega) | exact zn_out (zn_sub h_23 (by omega) (by omega) (by omega) (by omega)) (by omega) (by omega)) | (exfalso; omega)) (by omega)
          ·
            have dc_72 := i_ne c_72
            refine wp_so1 ?_
            show wp _ _
            refine wp_ifp (by decide) ?_
            refine wp_ck (i_inb (by omega) (by omega)) ?_
            refine wp_nm (fun y_31__78 _ => ?_)
            refine wp_ck (i_inb (by omega) (by omega)) ?_
            refine wp_nm (fun l_33__79 h_l_33__79 => ?_)
            have nl_l_33__79 : l_33__79.length = 32 := by rw [h_l_33__79, is_len]; assumption
            refine wp_of (uf_X5_turn_188 _ _ _ _ _ _ _ _ _ _ _ _ _ _ _ _) ?_
            refine wp_in2 ?_
            refine wp_of (uf_X5_setAlong _ _ _ _ _ _) ?_
            refine wp_ifn h_13 ?_
            refine wp_ck (i_inb (by omega) (by omega)) ?_
            generalize hz_z__81 : ((mm_ig v_colOf x5) - x4) = z__81
            have e_82 := i_subE hz_z__81 (by omega) (by omega)
            refine wp_nm (fun l_5__80 h_l_5__80 => ?_)
            have nl_l_5__80 : l_5__80.length = 32 := by rw [h_l_5__80, is_len]; assumption
            refine wp_so2 ?_
            show wp _ _
            refine wp_nm (fun y_52__83 h_y_52__83 => ?_)
            have e_84 := i_addE h_y_52__83.symm (by omega) (by omega)
            exact ih _ _ _ _ _ _ _ _ _ _ _ _ _ h_0 h_1 h_2 h_3 h_4 h_5 h_6 h_7 h_8 nl_l_5__80 nl_l_33__79 h_11 h_12 h_13 h_14 h_15 h_16 h_17 h_18 (by omega) (by omega) h_21 (by first | assumption | exact zn_nil (by omega) | (rw [h_l_5__80]; first | exact zn_out h_22 (by omega) (by omega) | exact zn_in h_22 (by omega) (by omega) (by omega) | exact zn_ext h_22 (by omega) (by omega) (by omega) (by omega) (by omega) | exact zn_out (zn_sub h_22 (by omega) (by omega) (by omega) (by omega)) (by omega) (by omega) | exact zn_out h_23 (by omega) (by omega) | exact zn_in h_23 (by omega) (by omega) (by omega) | exact zn_ext h_23 (by omega) (by omega) (by omega) (by omega) (by omega) | exact zn_out (zn_sub h_23 (by omega) (by omega) (by omega) (by omega)) (by omega) (by omega)) | (exfalso; omega)) (by first | assumption | exact zn_nil (by omega) | (rw [h_l_5__80]; first | exact zn_out h_22 (by omega) (by omega) | exact zn_in h_22 (by omega) (by omega) (by omega) | exact zn_ext h_22 (by omega) (by omega) (by omega) (by omega) (by omega) | exact zn_out (zn_sub h_22 (by omega) (by omega) (by omega) (by omega)) (by omega) (by omega) | exact zn_out h_23 (by omega) (by omega) | exact zn_in h_23 (by omega) (by omega) (by omega) | exact zn_ext h_23 (by omega) (by omega) (by omega) (by omega) (by omega) | exact zn_out (zn_sub h_23 (by omega) (by omega) (by omega) (by omega)) (by omega) (by omega)) | (exfalso; omega)) (by omega)

set_option maxHeartbeats 4000000 in
set_option maxRecDepth 20000 in
theorem sf_X5_turn_35_ce {N : Nat} (hN : 700 ≤ N)  : ∀ (n : Nat) (x1 : Int32) (x2 : Int32) (x4 : Int32) (x5 : Int32) (v_rows : Int32) (v_cols : Int32) (v_high : Int32) (v_wide : Int32) (v_rowOf : List Int32) (v_colOf : List Int32) (v_below : List Int32) (v_face : List Int32) (v_tall : List Int32), 1 ≤ v_rows.toInt → v_rows.toInt ≤ 4 → 1 ≤ v_cols.toInt → v_cols.toInt ≤ 8 → 1 ≤ v_high.toInt → v_high.toInt ≤ 4 → 1 ≤ v_wide.toInt → v_wide.toInt ≤ 8 → v_rowOf.length = 32 → v_colOf.length = 32 → v_below.length = 32 → v_face.length = 32 → v_tall.length = 32 → ¬ ((4 : Int32) ≤ x2) → ¬ ((x2 &&& (2 : Int32)) = (0 : Int32)) → 1 ≤ x1.toInt → x1.toInt < v_wide.toInt → x2.toInt < 4 → x4.toInt = min 0 (2 * x1.toInt - v_wide.toInt) → 0 ≤ x5.toInt → x5.toInt ≤ v_rows.toInt * v_cols.toInt → zn v_rowOf 0 (v_rows.toInt * v_cols.toInt) 0 v_high.toInt → zn v_colOf 0 x5.toInt 0 (max x1.toInt (v_wide.toInt - x1.toInt)) → zn v_colOf x5.toInt (v_rows.toInt * v_cols.toInt) 0 v_wide.toInt → (v_rows.toInt * v_cols.toInt - x5.toInt).toNat < n → wp (fX5_turn_35 N n x1 x2 x4 x5 v_rows v_cols v_high v_wide v_rowOf v_colOf v_below v_face v_tall) (cu7 (fun (wv_high : Int32) (wv_wide : Int32) (wv_rowOf : List Int32) (wv_colOf : List Int32) (wv_below : List Int32) (wv_face : List Int32) (wv_tall : List Int32) => 1 ≤ wv_high.toInt ∧ wv_high.toInt ≤ 4 ∧ 1 ≤ wv_wide.toInt ∧ wv_wide.toInt ≤ 8 ∧ wv_rowOf.length = 32 ∧ wv_colOf.length = 32 ∧ wv_below.length = 32 ∧ wv_face.length = 32 ∧ wv_tall.length = 32 ∧ zn wv_rowOf 0 (v_rows.toInt * v_cols.toInt) 0 wv_high.toInt ∧ zn wv_colOf 0 (v_rows.toInt * v_cols.toInt) 0 wv_wide.toInt)) := by
  intro n
  induction n with
  | zero =>
    intro x1 x2 x4 x5 v_rows v_cols v_high v_wide v_rowOf v_colOf v_below v_face v_tall h_0 h_1 h_2 h_3 h_4 h_5 h_6 h_7 h_8 h_9 h_10 h_11 h_12 h_13 h_14 h_15 h_16 h_17 h_18 h_19 h_20 h_21 h_22 h_23 hm
    exact absurd hm (by omega)
  | succ n ih =>
    intro x1 x2 x4 x5 v_rows v_cols v_high v_wide v_rowOf v_colOf v_below v_face v_tall h_0 h_1 h_2 h_3 h_4 h_5 h_6 h_7 h_8 h_9 h_10 h_11 h_12 h_13 h_14 h_15 h_16 h_17 h_18 h_19 h_20 h_21 h_22 h_23 hm
    have m3 := (i_fl (a := v_rows) (b := v_cols) (by omega) (by omega) (by omega) (by omega)).2
    refine wp_of (uf_X5_turn_35 _ _ _ _ _ _ _ _ _ _ _ _ _ _ _) ?_
    refine wp_bd1 (sf_X5_fields hN h_0 h_1 h_2 h_3) (fun r_8 ⟨q_1, q_2, q_3⟩ => ?_)
    refine wp_if (fun c_4 => ?_) (fun c_4 => ?_)
    ·
      have dc_4 := i_le c_4
      refine wp_in1 ?_
      refine wp_of (uf_X5_spanBehind _ _ _ _ _) ?_
      refine wp_in1 ?_
      refine wp_of (uf_X5_span _ _ _ _) ?_
      refine wp_ifn h_13 ?_
      refine wp_so1 ?_
      show wp _ _
      refine wp_so1 ?_
      show wp _ _
      refine wp_in2 ?_
      refine wp_of (uf_X5_narrow _ _ _ _ _) ?_
      refine wp_ifn h_13 ?_
      refine wp_so2 ?_
      show wp _ _
      generalize hz_z : (v_wide - x1) = z
      have e_5 := i_subE hz_z (by omega) (by omega)
      generalize hz_z__6 : (mm_max x1 z) = z__6
      have e_7 := i_maxY hz_z__6
      exact wp_so7 ⟨h_4, h_5, (by omega), (by omega), h_8, h_9, h_10, h_11, h_12, h_21, (by first | assumption | exact zn_nil (by omega) | exact zn_sub h_22 (by omega) (by omega) (by omega) (by omega) | exact zn_sub h_23 (by omega) (by omega) (by omega) (by omega) | (exfalso; omega))⟩
    ·
      have dc_4 := i_nle c_4
      refine wp_in1 ?_
      refine wp_of (uf_X5_along _ _ _ _ _) ?_
      refine wp_ifn h_13 ?_
      refine wp_ck (i_inb (by omega) (by omega)) ?_
      refine wp_so1 ?_
      show wp _ _
      have n_8 : (2 : Int32).toInt = 2 := by decide
      generalize hz_z__9 : ((2 : Int32) * x1) = z__9
      have e_10 := i_mulLE (c := 2) (by decide) hz_z__9 (by omega) (by omega)
      have n_11 : (1 : Int32).toInt = 1 := by decide
      generalize hz_z__12 : (z__9 - (1 : Int32)) = z__12
      have e_13 := i_subE hz_z__12 (by omega) (by omega)
      obtain ⟨e_14, e1_14⟩ := zn_get h_23 (i := x5) (by omega) (by omega) (by omega) (by omega)
      refine wp_nm (fun y_18 h_y_18 => ?_)
      have e_15 := i_subE h_y_18.symm (by omega) (by omega)
      refine wp_in1 ?_
      refine wp_of (uf_X5_across _ _ _ _ _) ?_
      refine wp_ifn h_13 ?_
      refine wp_ck (i_inb (by omega) (by omega)) ?_
      refine wp_so1 ?_
      show wp _ _
      obtain ⟨e_16, e1_16⟩ := zn_get h_21 (i := x5) (by omega) (by omega) (by omega) (by omega)
      refine wp_bd1 (sf_X5_tallAt hN h_4 h_5 h_6 h_7 h_12 (by omega) (by omega) (by omega)) (fun r_21 _ => ?_)
      refine wp_if (fun c_17 => ?_) (fun c_17 => ?_)
      ·
        have dc_17 := i_le c_17
        refine wp_of (uf_X5_turn_90 _ _ _ _ _ _ _ _ _ _ _ _ _ _ _ _ _ _ _) ?_
        refine wp_in1 ?_
        refine wp_of (uf_X5_comesFromStart _ _) ?_
        have n_19 : (0 : Int32).toInt = 0 := by decide
        refine wp_ifn h_14 ?_
        refine wp_so1 ?_
        show wp _ _
        generalize hz_z__21 : (mm_b false) = z__21
        have e_22 : z__21.toInt = 0 := by rw [← hz_z__21]; decide
        refine wp_if (fun c_20 => ?_) (fun c_20 => ?_)
        ·
          have dc_20 := i_eq c_20
          refine wp_in1 ?_
          refine wp_of (uf_X5_across _ _ _ _ _) ?_
          refine wp_ifn h_13 ?_
          refine wp_ck (i_inb (by omega) (by omega)) ?_
          refine wp_so1 ?_
          show wp _ _
          refine wp_bd1 (sf_X5_tallAt hN h_4 h_5 h_6 h_7 h_12 (by omega) (by omega) (by omega)) (fun r_36 _ => ?_)
          refine wp_ck (i_inb (by omega) (by omega)) ?_
          refine wp_in1 ?_
          refine wp_of (uf_X5_comesOver _ _) ?_
          refine wp_if (fun c_23 => ?_) (fun c_23 => ?_)
          ·
            have dc_23 := i_eq c_23
            refine wp_so1 ?_
            show wp _ _
            refine wp_ifn (by decide) ?_
            refine wp_of (uf_X5_turn_144 _ _ _ _ _ _ _ _ _ _ _ _ _ _ _ _ _ _ _) ?_
            refine wp_nm (fun y_42 _ => ?_)
            refine wp_ck (i_inb (by omega) (by omega)) ?_
            refine wp_nm (fun l_44 h_l_44 => ?_)
            have nl_l_44 : l_44.length = 32 := by rw [h_l_44, is_len]; assumption
            refine wp_ck (i_inb (by omega) (by omega)) ?_
            refine wp_nm (fun y_46 _ => ?_)
            refine wp_ck (i_inb (by omega) (by omega)) ?_
            refine wp_nm (fun l_48 h_l_48 => ?_)
            have nl_l_48 : l_48.length = 32 := by rw [h_l_48, is_len]; assumption
            refine wp_of (uf_X5_turn_188 _ _ _ _ _ _ _ _ _ _ _ _ _ _ _ _) ?_
            refine wp_in2 ?_
            refine wp_of (uf_X5_setAlong _ _ _ _ _ _) ?_
            refine wp_ifn h_13 ?_
            refine wp_ck (i_inb (by omega) (by omega)) ?_
            generalize hz_z__24 : (y_18 - x4) = z__24
            have e_25 := i_subE hz_z__24 (by omega) (by omega)
            refine wp_nm (fun l_5 h_l_5 => ?_)
            have nl_l_5 : l_5.length = 32 := by rw [h_l_5, is_len]; assumption
            refine wp_so2 ?_
            show wp _ _
            refine wp_nm (fun y_52 h_y_52 => ?_)
            have e_26 := i_addE h_y_52.symm (by omega) (by omega)
            exact ih _ _ _ _ _ _ _ _ _ _ _ _ _ h_0 h_1 h_2 h_3 h_4 h_5 h_6 h_7 h_8 nl_l_5 nl_l_44 nl_l_48 h_12 h_13 h_14 h_15 h_16 h_17 h_18 (by omega) (by omega) h_21 (by first | assumption | exact zn_nil (by omega) | (rw [h_l_5]; first | exact zn_out h_22 (by omega) (by omega) | exact zn_in h_22 (by omega) (by omega) (by omega) | exact zn_ext h_22 (by omega) (by omega) (by omega) (by omega) (by omega) | exact zn_out (zn_sub h_22 (by omega) (by omega) (by omega) (by omega)) (by omega) (by omega) | exact zn_out h_23 (by omega) (by omega) | exact zn_in h_23 (by omega) (by omega) (by omega) | exact zn_ext h_23 (by omega) (by omega) (by omega) (by omega) (by omega) | exact zn_out (zn_sub h_23 (by omega) (by omega) (by omega) (by omega)) (by omega) (by omega)) | (exfalso; omega)) (by first | assumption | exact zn_nil (by omega) | (rw [h_l_5]; first | exact zn_out h_22 (by omega) (by omega) | exact zn_in h_22 (by omega) (by omega) (by omega) | exact zn_ext h_22 (by omega) (by omega) (by omega) (by omega) (by omega) | exact zn_out (zn_sub h_22 (by omega) (by omega) (by omega) (by omega)) (by omega) (by omega) | exact zn_out h_23 (by omega) (by omega) | exact zn_in h_23 (by omega) (by omega) (by omega) | exact zn_ext h_23 (by omega) (by omega) (by omega) (by omega) (by omega) | exact zn_out (zn_sub h_23 (by omega) (by omega) (by omega) (by omega)) (by omega) (by omega)) | (exfalso; omega)) (by omega)
          ·
            have dc_23 := i_ne c_23
            refine wp_so1 ?_
            show wp _ _
            refine wp_ifp (by decide) ?_
            refine wp_of (uf_X5_turn_144 _ _ _ _ _ _ _ _ _ _ _ _ _ _ _ _ _ _ _) ?_
            refine wp_nm (fun y_42__27 _ => ?_)
            refine wp_ck (i_inb (by omega) (by omega)) ?_
            refine wp_nm (fun l_44__28 h_l_44__28 => ?_)
            have nl_l_44__28 : l_44__28.length = 32 := by rw [h_l_44__28, is_len]; assumption
            refine wp_ck (i_inb (by omega) (by omega)) ?_
            refine wp_nm (fun y_46__29 _ => ?_)
            refine wp_ck (i_inb (by omega) (by omega)) ?_
            refine wp_nm (fun l_48__30 h_l_48__30 => ?_)
            have nl_l_48__30 : l_48__30.length = 32 := by rw [h_l_48__30, is_len]; assumption
            refine wp_of (uf_X5_turn_188 _ _ _ _ _ _ _ _ _ _ _ _ _ _ _ _) ?_
            refine wp_in2 ?_
            refine wp_of (uf_X5_setAlong _ _ _ _ _ _) ?_
            refine wp_ifn h_13 ?_
            refine wp_ck (i_inb (by omega) (by omega)) ?_
            generalize hz_z__32 : (y_18 - x4) = z__32
            have e_33 := i_subE hz_z__32 (by omega) (by omega)
            refine wp_nm (fun l_5__31 h_l_5__31 => ?_)
            have nl_l_5__31 : l_5__31.length = 32 := by rw [h_l_5__31, is_len]; assumption
            refine wp_so2 ?_
            show wp _ _
            refine wp_nm (fun y_52__34 h_y_52__34 => ?_)
            have e_35 := i_addE h_y_52__34.symm (by omega) (by omega)
            exact ih _ _ _ _ _ _ _ _ _ _ _ _ _ h_0 h_1 h_2 h_3 h_4 h_5 h_6 h_7 h_8 nl_l_5__31 nl_l_44__28 nl_l_48__30 h_12 h_13 h_14 h_15 h_16 h_17 h_18 (by omega) (by omega) h_21 (by first | assumption | exact zn_nil (by omega) | (rw [h_l_5__31]; first | exact zn_out h_22 (by omega) (by omega) | exact zn_in h_22 (by omega) (by omega) (by omega) | exact zn_ext h_22 (by omega) (by omega) (by omega) (by omega) (by omega) | exact zn_out (zn_sub h_22 (by omega) (by omega) (by omega) (by omega)) (by omega) (by omega) | exact zn_out h_23 (by omega) (by omega) | exact zn_in h_23 (by omega) (by omega) (by omega) | exact zn_ext h_23 (by omega) (by omega) (by omega) (by omega) (by omega) | exact zn_out (zn_sub h_23 (by omega) (by omega) (by omega) (by omega)) (by omega) (by omega)) | (exfalso; omega)) (by first | assumption | exact zn_nil (by omega) | (rw [h_l_5__31]; first | exact zn_out h_22 (by omega) (by omega) | exact zn_in h_22 (by omega) (by omega) (by omega) | exact zn_ext h_22 (by omega) (by omega) (by omega) (by omega) (by omega) | exact zn_out (zn_sub h_22 (by omega) (by omega) (by omega) (by omega)) (by omega) (by omega) | exact zn_out h_23 (by omega) (by omega) | exact zn_in h_23 (by omega) (by omega) (by omega) | exact zn_ext h_23 (by omega) (by omega) (by omega) (by omega) (by omega) | exact zn_out (zn_sub h_23 (by omega) (by omega) (by omega) (by omega)) (by omega) (by omega)) | (exfalso; omega)) (by omega)
        ·
          have dc_20 := i_ne c_20
          refine wp_in1 ?_
          refine wp_of (uf_X5_comesOver _ _) ?_
          refine wp_if (fun c_36 => ?_) (fun c_36 => ?_)
          ·
            have dc_36 := i_eq c_36
            refine wp_so1 ?_
            show wp _ _
            refine wp_ifn (by decide) ?_
            refine wp_of (uf_X5_turn_188 _ _ _ _ _ _ _ _ _ _ _ _ _ _ _ _) ?_
            refine wp_in2 ?_
            refine wp_of (uf_X5_setAlong _ _ _ _ _ _) ?_
            refine wp_ifn h_13 ?_
            refine wp_ck (i_inb (by omega) (by omega)) ?_
            generalize hz_z__38 : ((mm_ig v_colOf x5) - x4) = z__38
            have e_39 := i_subE hz_z__38 (by omega) (by omega)
            refine wp_nm (fun l_5__37 h_l_5__37 => ?_)
            have nl_l_5__37 : l_5__37.length = 32 := by rw [h_l_5__37, is_len]; assumption
            refine wp_so2 ?_
            show wp _ _
            refine wp_nm (fun y_52__40 h_y_52__40 => ?_)
            have e_41 := i_addE h_y_52__40.symm (by omega) (by omega)
            exact ih _ _ _ _ _ _ _ _ _ _ _ _ _ h_0 h_1 h_2 h_3 h_4 h_5 h_6 h_7 h_8 nl_l_5__37 h_10 h_11 h_12 h_13 h_14 h_15 h_16 h_17 h_18 (by omega) (by omega) h_21 (by first | assumption | exact zn_nil (by omega) | (rw [h_l_5__37]; first | exact zn_out h_22 (by omega) (by omega) | exact zn_in h_22 (by omega) (by omega) (by omega) | exact zn_ext h_22 (by omega) (by omega) (by omega) (by omega) (by omega) | exact zn_out (zn_sub h_22 (by omega) (by omega) (by omega) (by omega)) (by omega) (by omega) | exact zn_out h_23 (by omega) (by omega) | exact zn_in h_23 (by omega) (by omega) (by omega) | exact zn_ext h_23 (by omega) (by omega) (by omega) (by omega) (by omega) | exact zn_out (zn_sub h_23 (by omega) (by omega) (by omega) (by omega)) (by omega) (by omega)) | (exfalso; omega)) (by first | assumption | exact zn_nil (by omega) | (rw [h_l_5__37]; first | exact zn_out h_22 (by omega) (by omega) | exact zn_in h_22 (by omega) (by omega) (by omega) | exact zn_ext h_22 (by omega) (by omega) (by omega) (by omega) (by omega) | exact zn_out (zn_sub h_22 (by omega) (by omega) (by omega) (by omega)) (by omega) (by omega) | exact zn_out h_23 (by omega) (by omega) | exact zn_in h_23 (by omega) (by omega) (by omega) | exact zn_ext h_23 (by omega) (by omega) (by omega) (by omega) (by omega) | exact zn_out (zn_sub h_23 (by omega) (by omega) (by omega) (by omega)) (by omega) (by omega)) | (exfalso; omega)) (by omega)
          ·
            have dc_36 := i_ne c_36
            refine wp_so1 ?_
            show wp _ _
            refine wp_ifp (by decide) ?_
            refine wp_ck (i_inb (by omega) (by omega)) ?_
            refine wp_nm (fun y_31 _ => ?_)
            refine wp_ck (i_inb (by omega) (by omega)) ?_
            refine wp_nm (fun l_33 h_l_33 => ?_)
            have nl_l_33 : l_33.length = 32 := by rw [h_l_33, is_len]; assumption
            refine wp_of (uf_X5_turn_188 _ _ _ _ _ _ _ _ _ _ _ _ _ _ _ _) ?_
            refine wp_in2 ?_
            refine wp_of (uf_X5_setAlong _ _ _ _ _ _) ?_
            refine wp_ifn h_13 ?_
            refine wp_ck (i_inb (by omega) (by omega)) ?_
            generalize hz_z__43 : ((mm_ig v_colOf x5) - x4) = z__43
            have e_44 := i_subE hz_z__43 (by omega) (by omega)
            refine wp_nm (fun l_5__42 h_l_5__42 => ?_)
            have nl_l_5__42 : l_5__42.length = 32 := by rw [h_l_5__42, is_len]; assumption
            refine wp_so2 ?_
            show wp _ _
            refine wp_nm (fun y_52__45 h_y_52__45 => ?_)
            have e_46 := i_addE h_y_52__45.symm (by omega) (by omega)
            exact ih _ _ _ _ _ _ _ _ _ _ _ _ _ h_0 h_1 h_2 h_3 h_4 h_5 h_6 h_7 h_8 nl_l_5__42 nl_l_33 h_11 h_12 h_13 h_14 h_15 h_16 h_17 h_18 (by omega) (by omega) h_21 (by first | assumption | exact zn_nil (by omega) | (rw [h_l_5__42]; first | exact zn_out h_22 (by omega) (by omega) | exact zn_in h_22 (by omega) (by omega) (by omega) | exact zn_ext h_22 (by omega) (by omega) (by omega) (by omega) (by omega) | exact zn_out (zn_sub h_22 (by omega) (by omega) (by omega) (by omega)) (by omega) (by omega) | exact zn_out h_23 (by omega) (by omega) | exact zn_in h_23 (by omega) (by omega) (by omega) | exact zn_ext h_23 (by omega) (by omega) (by omega) (by omega) (by omega) | exact zn_out (zn_sub h_23 (by omega) (by omega) (by omega) (by omega)) (by omega) (by omega)) | (exfalso; omega)) (by first | assumption | exact zn_nil (by omega) | (rw [h_l_5__42]; first | exact zn_out h_22 (by omega) (by omega) | exact zn_in h_22 (by omega) (by omega) (by omega) | exact zn_ext h_22 (by omega) (by omega) (by omega) (by omega) (by omega) | exact zn_out (zn_sub h_22 (by omega) (by omega) (by omega) (by omega)) (by omega) (by omega) | exact zn_out h_23 (by omega) (by omega) | exact zn_in h_23 (by omega) (by omega) (by omega) | exact zn_ext h_23 (by omega) (by omega) (by omega) (by omega) (by omega) | exact zn_out (zn_sub h_23 (by omega) (by omega) (by omega) (by omega)) (by omega) (by omega)) | (exfalso; omega)) (by omega)
      ·
        have dc_17 := i_nle c_17
        refine wp_of (uf_X5_turn_90 _ _ _ _ _ _ _ _ _ _ _ _ _ _ _ _ _ _ _) ?_
        refine wp_in1 ?_
        refine wp_of (uf_X5_comesFromStart _ _) ?_
        have n_48 : (0 : Int32).toInt = 0 := by decide
        refine wp_ifn h_14 ?_
        refine wp_so1 ?_
        show wp _ _
        generalize hz_z__50 : (mm_b false) = z__50
        have e_51 : z__50.toInt = 0 := by rw [← hz_z__50]; decide
        refine wp_if (fun c_49 => ?_) (fun c_49 => ?_)
        ·
          have dc_49 := i_eq c_49
          refine wp_in1 ?_
          refine wp_of (uf_X5_across _ _ _ _ _) ?_
          refine wp_ifn h_13 ?_
          refine wp_ck (i_inb (by omega) (by omega)) ?_
          refine wp_so1 ?_
          show wp _ _
          refine wp_bd1 (sf_X5_tallAt hN h_4 h_5 h_6 h_7 h_12 (by omega) (by omega) (by omega)) (fun r_36__52 _ => ?_)
          refine wp_ck (i_inb (by omega) (by omega)) ?_
          refine wp_in1 ?_
          refine wp_of (uf_X5_comesOver _ _) ?_
          refine wp_if (fun c_53 => ?_) (fun c_53 => ?_)
          ·
            have dc_53 := i_eq c_53
            refine wp_so1 ?_
            show wp _ _
            refine wp_ifn (by decide) ?_
            refine wp_of (uf_X5_turn_144 _ _ _ _ _ _ _ _ _ _ _ _ _ _ _ _ _ _ _) ?_
            refine wp_nm (fun y_42__54 _ => ?_)
            refine wp_ck (i_inb (by omega) (by omega)) ?_
            refine wp_nm (fun l_44__55 h_l_44__55 => ?_)
            have nl_l_44__55 : l_44__55.length = 32 := by rw [h_l_44__55, is_len]; assumption
            refine wp_ck (i_inb (by omega) (by omega)) ?_
            refine wp_nm (fun y_46__56 _ => ?_)
            refine wp_ck (i_inb (by omega) (by omega)) ?_
            refine wp_nm (fun l_48__57 h_l_48__57 => ?_)
            have nl_l_48__57 : l_48__57.length = 32 := by rw [h_l_48__57, is_len]; assumption
            refine wp_of (uf_X5_turn_188 _ _ _ _ _ _ _ _ _ _ _ _ _ _ _ _) ?_
            refine wp_in2 ?_
            refine wp_of (uf_X5_setAlong _ _ _ _ _ _) ?_
            refine wp_ifn h_13 ?_
            refine wp_ck (i_inb (by omega) (by omega)) ?_
            generalize hz_z__59 : (y_18 - x4) = z__59
            have e_60 := i_subE hz_z__59 (by omega) (by omega)
            refine wp_nm (fun l_5__58 h_l_5__58 => ?_)
            have nl_l_5__58 : l_5__58.length = 32 := by rw [h_l_5__58, is_len]; assumption
            refine wp_so2 ?_
            show wp _ _
            refine wp_nm (fun y_52__61 h_y_52__61 => ?_)
            have e_62 := i_addE h_y_52__61.symm (by omega) (by omega)
            exact ih _ _ _ _ _ _ _ _ _ _ _ _ _ h_0 h_1 h_2 h_3 h_4 h_5 h_6 h_7 h_8 nl_l_5__58 nl_l_44__55 nl_l_48__57 h_12 h_13 h_14 h_15 h_16 h_17 h_18 (by omega) (by omega) h_21 (by first | assumption | exact zn_nil (by omega) | (rw [h_l_5__58]; first | exact zn_out h_22 (by omega) (by omega) | exact zn_in h_22 (by omega) (by omega) (by omega) | exact zn_ext h_22 (by omega) (by omega) (by omega) (by omega) (by omega) | exact zn_out (zn_sub h_22 (by omega) (by omega) (by omega) (by omega)) (by omega) (by omega) | exact zn_out h_23 (by omega) (by omega) | exact zn_in h_23 (by omega) (by omega) (by omega) | exact zn_ext h_23 (by omega) (by omega) (by omega) (by omega) (by omega) | exact zn_out (zn_sub h_23 (by omega) (by omega) (by omega) (by omega)) (by omega) (by omega)) | (exfalso; omega)) (by first | assumption | exact zn_nil (by omega) | (rw [h_l_5__58]; first | exact zn_out h_22 (by omega) (by omega) | exact zn_in h_22 (by omega) (by omega) (by omega) | exact zn_ext h_22 (by omega) (by omega) (by omega) (by omega) (by omega) | exact zn_out (zn_sub h_22 (by omega) (by omega) (by omega) (by omega)) (by omega) (by omega) | exact zn_out h_23 (by omega) (by omega) | exact zn_in h_23 (by omega) (by omega) (by omega) | exact zn_ext h_23 (by omega) (by omega) (by omega) (by omega) (by omega) | exact zn_out (zn_sub h_23 (by omega) (by omega) (by omega) (by omega)) (by omega) (by omega)) | (exfalso; omega)) (by omega)
          ·
            have dc_53 := i_ne c_53
            refine wp_so1 ?_
            show wp _ _
            refine wp_ifp (by decide) ?_
            refine wp_of (uf_X5_turn_144 _ _ _ _ _ _ _ _ _ _ _ _ _ _ _ _ _ _ _) ?_
            refine wp_nm (fun y_42__63 _ => ?_)
            refine wp_ck (i_inb (by omega) (by omega)) ?_
            refine wp_nm (fun l_44__64 h_l_44__64 => ?_)
            have nl_l_44__64 : l_44__64.length = 32 := by rw [h_l_44__64, is_len]; assumption
            refine wp_ck (i_inb (by omega) (by omega)) ?_
            refine wp_nm (fun y_46__65 _ => ?_)
            refine wp_ck (i_inb (by omega) (by omega)) ?_
            refine wp_nm (fun l_48__66 h_l_48__66 => ?_)
            have nl_l_48__66 : l_48__66.length = 32 := by rw [h_l_48__66, is_len]; assumption
            refine wp_of (uf_X5_turn_188 _ _ _ _ _ _ _ _ _ _ _ _ _ _ _ _) ?_
            refine wp_in2 ?_
            refine wp_of (uf_X5_setAlong _ _ _ _ _ _) ?_
            refine wp_ifn h_13 ?_
            refine wp_ck (i_inb (by omega) (by omega)) ?_
            generalize hz_z__68 : (y_18 - x4) = z__68
            have e_69 := i_subE hz_z__68 (by omega) (by omega)
            refine wp_nm (fun l_5__67 h_l_5__67 => ?_)
            have nl_l_5__67 : l_5__67.length = 32 := by rw [h_l_5__67, is_len]; assumption
            refine wp_so2 ?_
            show wp _ _
            refine wp_nm (fun y_52__70 h_y_52__70 => ?_)
            have e_71 := i_addE h_y_52__70.symm (by omega) (by omega)
            exact ih _ _ _ _ _ _ _ _ _ _ _ _ _ h_0 h_1 h_2 h_3 h_4 h_5 h_6 h_7 h_8 nl_l_5__67 nl_l_44__64 nl_l_48__66 h_12 h_13 h_14 h_15 h_16 h_17 h_18 (by omega) (by omega) h_21 (by first | assumption | exact zn_nil (by omega) | (rw [h_l_5__67]; first | exact zn_out h_22 (by omega) (by omega) | exact zn_in h_22 (by omega) (by omega) (by omega) | exact zn_ext h_22 (by omega) (by omega) (by omega) (by omega) (by omega) | exact zn_out (zn_sub h_22 (by omega) (by omega) (by omega) (by omega)) (by omega) (by omega) | exact zn_out h_23 (by omega) (by omega) | exact zn_in h_23 (by omega) (by omega) (by omega) | exact zn_ext h_23 (by omega) (by omega) (by omega) (by omega) (by omega) | exact zn_out (zn_sub h_23 (by omega) (by omega) (by omega) (by omega)) (by omega) (by omega)) | (exfalso; omega)) (by first | assumption | exact zn_nil (by omega) | (rw [h_l_5__67]; first | exact zn_out h_22 (by omega) (by omega) | exact zn_in h_22 (by omega) (by omega) (by omega) | exact zn_ext h_22 (by omega) (by omega) (by omega) (by omega) (by omega) | exact zn_out (zn_sub h_22 (by omega) (by omega) (by omega) (by omega)) (by omega) (by omega) | exact zn_out h_23 (by omega) (by omega) | exact zn_in h_23 (by omega) (by omega) (by omega) | exact zn_ext h_23 (by omega) (by omega) (by omega) (by omega) (by omega) | exact zn_out (zn_sub h_23 (by omega) (by omega) (by omega) (by omega)) (by omega) (by omega)) | (exfalso; omega)) (by omega)
        ·
          have dc_49 := i_ne c_49
          refine wp_in1 ?_
          refine wp_of (uf_X5_comesOver _ _) ?_
          refine wp_if (fun c_72 => ?_) (fun c_72 => ?_)
          ·
            have dc_72 := i_eq c_72
            refine wp_so1 ?_
            show wp _ _
            refine wp_ifn (by decide) ?_
            refine wp_of (uf_X5_turn_188 _ _ _ _ _ _ _ _ _ _ _ _ _ _ _ _) ?_
            refine wp_in2 ?_
            refine wp_of (uf_X5_setAlong _ _ _ _ _ _) ?_
            refine wp_ifn h_13 ?_
            refine wp_ck (i_inb (by omega) (by omega)) ?_
            generalize hz_z__74 : ((mm_ig v_colOf x5) - x4) = z__74
            have e_75 := i_subE hz_z__74 (by omega) (by omega)
            refine wp_nm (fun l_5__73 h_l_5__73 => ?_)
            have nl_l_5__73 : l_5__73.length = 32 := by rw [h_l_5__73, is_len]; assumption
            refine wp_so2 ?_
            show wp _ _
            refine wp_nm (fun y_52__76 h_y_52__76 => ?_)
            have e_77 := i_addE h_y_52__76.symm (by omega) (by omega)
            exact ih _ _ _ _ _ _ _ _ _ _ _ _ _ h_0 h_1 h_2 h_3 h_4 h_5 h_6 h_7 h_8 nl_l_5__73 h_10 h_11 h_12 h_13 h_14 h_15 h_16 h_17 h_18 (by omega) (by omega) h_21 (by first | assumption | exact zn_nil (by omega) | (rw [h_l_5__73]; first | exact zn_out h_22 (by omega) (by omega) | exact zn_in h_22 (by omega) (by omega) (by omega) | exact zn_ext h_22 (by omega) (by omega) (by omega) (by omega) (by omega) | exact zn_out (zn_sub h_22 (by omega) (by omega) (by omega) (by omega)) (by omega) (by omega) | exact zn_out h_23 (by omega) (by omega) | exact zn_in h_23 (by omega) (by omega) (by omega) | exact zn_ext h_23 (by omega) (by omega) (by omega) (by omega) (by omega) | exact zn_out (zn_sub h_23 (by omega) (by omega) (by omega) (by omega)) (by omega) (by omega)) | (exfalso; omega)) (by first | assumption | exact zn_nil (by omega) | (rw [h_l_5__73]; first | exact zn_out h_22 (by omega) (by omega) | exact zn_in h_22 (by omega) (by omega) (by omega) | exact zn_ext h_22 (by omega) (by omega) (by omega) (by omega) (by omega) | exact zn_out (zn_sub h_22 (by omega) (by omega) (by omega) (by omega)) (by omega) (by omega) | exact zn_out h_23 (by omega) (by omega) | exact zn_in h_23 (by omega) (by omega) (by omega) | exact zn_ext h_23 (by omega) (by omega) (by omega) (by omega) (by omega) | exact zn_out (zn_sub h_23 (by omega) (by omega) (by omega) (by omega)) (by omega) (by omega)) | (exfalso; omega)) (by omega)
          ·
            have dc_72 := i_ne c_72
            refine wp_so1 ?_
            show wp _ _
            refine wp_ifp (by decide) ?_
            refine wp_ck (i_inb (by omega) (by omega)) ?_
            refine wp_nm (fun y_31__78 _ => ?_)
            refine wp_ck (i_inb (by omega) (by omega)) ?_
            refine wp_nm (fun l_33__79 h_l_33__79 => ?_)
            have nl_l_33__79 : l_33__79.length = 32 := by rw [h_l_33__79, is_len]; assumption
            refine wp_of (uf_X5_turn_188 _ _ _ _ _ _ _ _ _ _ _ _ _ _ _ _) ?_
            refine wp_in2 ?_
            refine wp_of (uf_X5_setAlong _ _ _ _ _ _) ?_
            refine wp_ifn h_13 ?_
            refine wp_ck (i_inb (by omega) (by omega)) ?_
            generalize hz_z__81 : ((mm_ig v_colOf x5) - x4) = z__81
            have e_82 := i_subE hz_z__81 (by omega) (by omega)
            refine wp_nm (fun l_5__80 h_l_5__80 => ?_)
            have nl_l_5__80 : l_5__80.length = 32 := by rw [h_l_5__80, is_len]; assumption
            refine wp_so2 ?_
            show wp _ _
            refine wp_nm (fun y_52__83 h_y_52__83 => ?_)
            have e_84 := i_addE h_y_52__83.symm (by omega) (by omega)
            exact ih _ _ _ _ _ _ _ _ _ _ _ _ _ h_0 h_1 h_2 h_3 h_4 h_5 h_6 h_7 h_8 nl_l_5__80 nl_l_33__79 h_11 h_12 h_13 h_14 h_15 h_16 h_17 h_18 (by omega) (by omega) h_21 (by first | assumption | exact zn_nil (by omega) | (rw [h_l_5__80]; first | exact zn_out h_22 (by omega) (by omega) | exact zn_in h_22 (by omega) (by omega) (by omega) | exact zn_ext h_22 (by omega) (by omega) (by omega) (by omega) (by omega) | exact zn_out (zn_sub h_22 (by omega) (by omega) (by omega) (by omega)) (by omega) (by omega) | exact zn_out h_23 (by omega) (by omega) | exact zn_in h_23 (by omega) (by omega) (by omega) | exact zn_ext h_23 (by omega) (by omega) (by omega) (by omega) (by omega) | exact zn_out (zn_sub h_23 (by omega) (by omega) (by omega) (by omega)) (by omega) (by omega)) | (exfalso; omega)) (by first | assumption | exact zn_nil (by omega) | (rw [h_l_5__80]; first | exact zn_out h_22 (by omega) (by omega) | exact zn_in h_22 (by omega) (by omega) (by omega) | exact zn_ext h_22 (by omega) (by omega) (by omega) (by omega) (by omega) | exact zn_out (zn_sub h_22 (by omega) (by omega) (by omega) (by omega)) (by omega) (by omega) | exact zn_out h_23 (by omega) (by omega) | exact zn_in h_23 (by omega) (by omega) (by omega) | exact zn_ext h_23 (by omega) (by omega) (by omega) (by omega) (by omega) | exact zn_out (zn_sub h_23 (by omega) (by omega) (by omega) (by omega)) (by omega) (by omega)) | (exfalso; omega)) (by omega)

theorem uf_X5_turn (N : Nat) (x1 : Int32) (x2 : Int32) (v_rows : Int32) (v_cols : Int32) (v_high : Int32) (v_wide : Int32) (v_rowOf : List Int32) (v_colOf : List Int32) (v_below : List Int32) (v_face : List Int32) (v_tall : List Int32) : fX5_turn N x1 x2 v_rows v_cols v_high v_wide v_rowOf v_colOf v_below v_face v_tall = mm_bd1 (fX5_measurePiles N v_rows v_cols v_rowOf v_colOf v_tall) (fun (w_1 : List Int32) =>
    mm_bd1 (fX5_span N x2 v_high v_wide) (fun (r_3 : Int32) =>
    mm_bd1 (fX5_comesFromStart N x2) (fun (r_5 : Bool) =>
    if r_5 = false then
    (fX5_turn_30 N x1 x2 (mm_min (0 : Int32) (((2 : Int32) * x1) - r_3)) v_rows v_cols v_high v_wide v_rowOf v_colOf v_below v_face w_1)
    else (fX5_turn_30 N x1 x2 x1 v_rows v_cols v_high v_wide v_rowOf v_colOf v_below v_face w_1)))) := rfl

theorem uf_X5_turn_30 (N : Nat) (x1 : Int32) (x2 : Int32) (s0 : Int32) (v_rows : Int32) (v_cols : Int32) (v_high : Int32) (v_wide : Int32) (v_rowOf : List Int32) (v_colOf : List Int32) (v_below : List Int32) (v_face : List Int32) (v_tall : List Int32) : fX5_turn_30 N x1 x2 s0 v_rows v_cols v_high v_wide v_rowOf v_colOf v_below v_face v_tall = fX5_turn_35 N N x1 x2 s0 (0 : Int32) v_rows v_cols v_high v_wide v_rowOf v_colOf v_below v_face v_tall := rfl

set_option maxHeartbeats 4000000 in
set_option maxRecDepth 20000 in
theorem sf_X5_turn {N : Nat} (hN : 700 ≤ N) {x1 : Int32} {x2 : Int32} {v_rows : Int32} {v_cols : Int32} {v_high : Int32} {v_wide : Int32} {v_rowOf : List Int32} {v_colOf : List Int32} {v_below : List Int32} {v_face : List Int32} {v_tall : List Int32} (h_0 : 1 ≤ v_rows.toInt) (h_1 : v_rows.toInt ≤ 4) (h_2 : 1 ≤ v_cols.toInt) (h_3 : v_cols.toInt ≤ 8) (h_4 : 1 ≤ v_high.toInt) (h_5 : v_high.toInt ≤ 4) (h_6 : 1 ≤ v_wide.toInt) (h_7 : v_wide.toInt ≤ 8) (h_8 : v_rowOf.length = 32) (h_9 : v_colOf.length = 32) (h_10 : v_below.length = 32) (h_11 : v_face.length = 32) (h_12 : v_tall.length = 32) (h_13 : zn v_rowOf 0 (v_rows.toInt * v_cols.toInt) 0 v_high.toInt) (h_14 : zn v_colOf 0 (v_rows.toInt * v_cols.toInt) 0 v_wide.toInt) (h_15 : 1 ≤ x1.toInt) (h_16 : (x2.toInt < 4 → x1.toInt < v_wide.toInt)) (h_17 : (4 ≤ x2.toInt → x1.toInt < v_high.toInt)) : wp (fX5_turn N x1 x2 v_rows v_cols v_high v_wide v_rowOf v_colOf v_below v_face v_tall) (cu7 (fun (wv_high : Int32) (wv_wide : Int32) (wv_rowOf : List Int32) (wv_colOf : List Int32) (wv_below : List Int32) (wv_face : List Int32) (wv_tall : List Int32) => 1 ≤ wv_high.toInt ∧ wv_high.toInt ≤ 4 ∧ 1 ≤ wv_wide.toInt ∧ wv_wide.toInt ≤ 8 ∧ wv_rowOf.length = 32 ∧ wv_colOf.length = 32 ∧ wv_below.length = 32 ∧ wv_face.length = 32 ∧ wv_tall.length = 32 ∧ zn wv_rowOf 0 (v_rows.toInt * v_cols.toInt) 0 wv_high.toInt ∧ zn wv_colOf 0 (v_rows.toInt * v_cols.toInt) 0 wv_wide.toInt)) := by
  have m3 := (i_fl (a := v_rows) (b := v_cols) (by omega) (by omega) (by omega) (by omega)).2
  refine wp_of (uf_X5_turn _ _ _ _ _ _ _ _ _ _ _ _) ?_
  refine wp_bd1 (sf_X5_measurePiles hN h_0 h_1 h_2 h_3 h_8 h_9 h_12 (by first | assumption | exact zn_nil (by omega) | exact zn_sub h_13 (by omega) (by omega) (by omega) (by omega) | (exfalso; omega)) (by first | assumption | exact zn_nil (by omega) | exact zn_sub h_14 (by omega) (by omega) (by omega) (by omega) | (exfalso; omega))) (fun w_1 q_1 => ?_)
  refine wp_in1 ?_
  refine wp_of (uf_X5_span _ _ _ _) ?_
  have n_3 : (4 : Int32).toInt = 4 := by decide
  refine wp_if (fun c_2 => ?_) (fun c_2 => ?_)
  ·
    have dc_2 := i_le c_2
    refine wp_so1 ?_
    show wp _ _
    refine wp_in1 ?_
    refine wp_of (uf_X5_comesFromStart _ _) ?_
    have n_5 : (0 : Int32).toInt = 0 := by decide
    refine wp_if (fun c_4 => ?_) (fun c_4 => ?_)
    ·
      have dc_4 := i_eq c_4
      refine wp_so1 ?_
      show wp _ _
      refine wp_ifn (by decide) ?_
      refine wp_of (uf_X5_turn_30 _ _ _ _ _ _ _ _ _ _ _ _ _) ?_
      exact sf_X5_turn_35_rs hN _ _ _ _ _ _ _ _ _ _ _ _ _ _ h_0 h_1 h_2 h_3 h_4 h_5 h_6 h_7 h_8 h_9 h_10 h_11 q_1 (by first | assumption | omega | decide) (by first | assumption | omega | decide) h_15 (by omega) (by omega) (by omega) (by omega) (by omega) h_14 (by first | assumption | exact zn_nil (by omega) | exact zn_sub h_13 (by omega) (by omega) (by omega) (by omega) | (exfalso; omega)) (by first | assumption | exact zn_nil (by omega) | exact zn_sub h_13 (by omega) (by omega) (by omega) (by omega) | (exfalso; omega)) (by omega)
    ·
      have dc_4 := i_ne c_4
      refine wp_so1 ?_
      show wp _ _
      refine wp_ifp (by decide) ?_
      refine wp_of (uf_X5_turn_30 _ _ _ _ _ _ _ _ _ _ _ _ _) ?_
      have n_6 : (2 : Int32).toInt = 2 := by decide
      generalize hz_z : ((2 : Int32) * x1) = z
      first | have e_7 := i_mulLE (c := 2) (by decide) hz_z (by omega) (by omega) | obtain ⟨k_7, e_7, e1_7, e2_7⟩ := i_mulL (c := 2) (by decide) hz_z
      generalize hz_z__8 : (z - v_high) = z__8
      first | have e_9 := i_subE hz_z__8 (by omega) (by omega) | obtain ⟨k_9, e_9, e1_9, e2_9⟩ := i_subY hz_z__8
      generalize hz_z__10 : (mm_min (0 : Int32) z__8) = z__10
      have e_11 := i_minY hz_z__10
      exact sf_X5_turn_35_re hN _ _ _ _ _ _ _ _ _ _ _ _ _ _ h_0 h_1 h_2 h_3 h_4 h_5 h_6 h_7 h_8 h_9 h_10 h_11 q_1 (by first | assumption | omega | decide) (by first | assumption | omega | decide) h_15 (by omega) (by omega) (by omega) (by omega) (by omega) h_14 (by first | assumption | exact zn_nil (by omega) | exact zn_sub h_13 (by omega) (by omega) (by omega) (by omega) | (exfalso; omega)) (by first | assumption | exact zn_nil (by omega) | exact zn_sub h_13 (by omega) (by omega) (by omega) (by omega) | (exfalso; omega)) (by omega)
  ·
    have dc_2 := i_nle c_2
    refine wp_so1 ?_
    show wp _ _
    refine wp_in1 ?_
    refine wp_of (uf_X5_comesFromStart _ _) ?_
    have n_13 : (0 : Int32).toInt = 0 := by decide
    refine wp_if (fun c_12 => ?_) (fun c_12 => ?_)
    ·
      have dc_12 := i_eq c_12
      refine wp_so1 ?_
      show wp _ _
      refine wp_ifn (by decide) ?_
      refine wp_of (uf_X5_turn_30 _ _ _ _ _ _ _ _ _ _ _ _ _) ?_
      exact sf_X5_turn_35_cs hN _ _ _ _ _ _ _ _ _ _ _ _ _ _ h_0 h_1 h_2 h_3 h_4 h_5 h_6 h_7 h_8 h_9 h_10 h_11 q_1 (by first | assumption | omega | decide) (by first | assumption | omega | decide) h_15 (by omega) (by omega) (by omega) (by omega) (by omega) h_13 (by first | assumption | exact zn_nil (by omega) | exact zn_sub h_14 (by omega) (by omega) (by omega) (by omega) | (exfalso; omega)) (by first | assumption | exact zn_nil (by omega) | exact zn_sub h_14 (by omega) (by omega) (by omega) (by omega) | (exfalso; omega)) (by omega)
    ·
      have dc_12 := i_ne c_12
      refine wp_so1 ?_
      show wp _ _
      refine wp_ifp (by decide) ?_
      refine wp_of (uf_X5_turn_30 _ _ _ _ _ _ _ _ _ _ _ _ _) ?_
      have n_14 : (2 : Int32).toInt = 2 := by decide
      generalize hz_z__15 : ((2 : Int32) * x1) = z__15
      first | have e_16 := i_mulLE (c := 2) (by decide) hz_z__15 (by omega) (by omega) | obtain ⟨k_16, e_16, e1_16, e2_16⟩ := i_mulL (c := 2) (by decide) hz_z__15
      generalize hz_z__17 : (z__15 - v_wide) = z__17
      first | have e_18 := i_subE hz_z__17 (by omega) (by omega) | obtain ⟨k_18, e_18, e1_18, e2_18⟩ := i_subY hz_z__17
      generalize hz_z__19 : (mm_min (0 : Int32) z__17) = z__19
      have e_20 := i_minY hz_z__19
      exact sf_X5_turn_35_ce hN _ _ _ _ _ _ _ _ _ _ _ _ _ _ h_0 h_1 h_2 h_3 h_4 h_5 h_6 h_7 h_8 h_9 h_10 h_11 q_1 (by first | assumption | omega | decide) (by first | assumption | omega | decide) h_15 (by omega) (by omega) (by omega) (by omega) (by omega) h_13 (by first | assumption | exact zn_nil (by omega) | exact zn_sub h_14 (by omega) (by omega) (by omega) (by omega) | (exfalso; omega)) (by first | assumption | exact zn_nil (by omega) | exact zn_sub h_14 (by omega) (by omega) (by omega) (by omega) | (exfalso; omega)) (by omega)

theorem uf_X5_wear (N : Nat) (x1 : Int32) (x2 : Int32) (v_wrong : Int32) (v_more : Int32) (v_worn : List Int32) (v_last : List Int32) (v_bend : List Int32) (p3_stepCount : Int32) (p3_stacked : Int32) (p3_steps : List Int32) (p3_stack : List Int32) : fX5_wear N x1 x2 v_wrong v_more v_worn v_last v_bend p3_stepCount p3_stacked p3_steps p3_stack = mm_ck (mm_inb x1 v_last.length) (if (mm_ig v_last x1) = 0 then
    (fX5_wear_28 N x1 x2 v_wrong v_more v_worn v_last v_bend p3_stepCount p3_stacked p3_steps p3_stack)
    else (mm_ck (mm_inb x1 v_last.length) (mm_ck (mm_inb x1 v_bend.length) (if (mm_ig v_last x1) = (mm_ig v_bend x1) then
    (fX5_wear_28 N x1 x2 v_wrong v_more v_worn v_last v_bend p3_stepCount p3_stacked p3_steps p3_stack)
    else (fX5_wear_29 N x1 x2 (1 : Int32) v_wrong v_more v_worn v_last v_bend p3_stepCount p3_stacked p3_steps p3_stack))))) := rfl

theorem uf_X5_wear_28 (N : Nat) (x1 : Int32) (x2 : Int32) (v_wrong : Int32) (v_more : Int32) (v_worn : List Int32) (v_last : List Int32) (v_bend : List Int32) (p3_stepCount : Int32) (p3_stacked : Int32) (p3_steps : List Int32) (p3_stack : List Int32) : fX5_wear_28 N x1 x2 v_wrong v_more v_worn v_last v_bend p3_stepCount p3_stacked p3_steps p3_stack = fX5_wear_29 N x1 x2 (0 : Int32) v_wrong v_more v_worn v_last v_bend p3_stepCount p3_stacked p3_steps p3_stack := rfl

theorem uf_X5_wear_29 (N : Nat) (x1 : Int32) (x2 : Int32) (s0 : Int32) (v_wrong : Int32) (v_more : Int32) (v_worn : List Int32) (v_last : List Int32) (v_bend : List Int32) (p3_stepCount : Int32) (p3_stacked : Int32) (p3_steps : List Int32) (p3_stack : List Int32) : fX5_wear_29 N x1 x2 s0 v_wrong v_more v_worn v_last v_bend p3_stepCount p3_stacked p3_steps p3_stack = mm_ck (mm_inb x1 v_worn.length) (mm_nm ((mm_ig v_worn x1)) (fun (y_7 : Int32) =>
    mm_ck (mm_nz (2 : Int32)) (mm_ck (mm_nz (2 : Int32)) (mm_ck (mm_inb x1 v_bend.length) (mm_bd3 (fX2_worth N x2 y_7 s0 (mm_rem x1 (2 : Int32)) (x1 / (2 : Int32)) (mm_ig v_bend x1) p3_stepCount p3_stacked p3_steps p3_stack) (fun (r_11 : Int32) (w_12 : Int32) (w_13 : List Int32) =>
    mm_nm ((mm_min (99 : Int32) (y_7 + r_11))) (fun (y_15 : Int32) =>
    mm_ck (mm_inb x1 v_worn.length) (mm_nm (mm_is v_worn x1 y_15) (fun (l_17 : List Int32) =>
    mm_ck (mm_inb x1 v_bend.length) (mm_nm ((mm_ig v_bend x1)) (fun (y_19 : Int32) =>
    mm_ck (mm_inb x1 v_last.length) (mm_nm (mm_is v_last x1 y_19) (fun (l_21 : List Int32) =>
    mm_ck (mm_inb x1 l_17.length) (mm_nm ((v_more + ((mm_ig l_17 x1) - y_7))) (fun (y_23 : Int32) =>
    mm_nm ((v_wrong + s0)) (fun (y_24 : Int32) =>
    some (y_24, y_23, l_17, l_21, w_12, w_13))))))))))))))))) := rfl

set_option maxHeartbeats 4000000 in
set_option maxRecDepth 20000 in
theorem sf_X5_wear {N : Nat} (hN : 700 ≤ N) {x1 : Int32} {x2 : Int32} {v_wrong : Int32} {v_more : Int32} {v_worn : List Int32} {v_last : List Int32} {v_bend : List Int32} {p3_stepCount : Int32} {p3_stacked : Int32} {p3_steps : List Int32} {p3_stack : List Int32} (h_0 : v_worn.length = 64) (h_1 : v_last.length = 64) (h_2 : v_bend.length = 64) (h_3 : 0 ≤ p3_stepCount.toInt) (h_4 : p3_stepCount.toInt ≤ 121) (h_5 : p3_steps.length = 121) (h_6 : p3_stack.length = 121) (h_7 : 0 ≤ x1.toInt) (h_8 : x1.toInt < 64) : wp (fX5_wear N x1 x2 v_wrong v_more v_worn v_last v_bend p3_stepCount p3_stacked p3_steps p3_stack) (cu6 (fun (wv_wrong : Int32) (wv_more : Int32) (wv_worn : List Int32) (wv_last : List Int32) (wp3_stacked : Int32) (wp3_stack : List Int32) => wv_worn.length = 64 ∧ wv_last.length = 64 ∧ wp3_stack.length = 121)) := by
  refine wp_of (uf_X5_wear _ _ _ _ _ _ _ _ _ _ _ _) ?_
  refine wp_ck (i_inb (by omega) (by omega)) ?_
  have n_2 : (0 : Int32).toInt = 0 := by decide
  refine wp_if (fun c_1 => ?_) (fun c_1 => ?_)
  ·
    have dc_1 := i_eq c_1
    refine wp_of (uf_X5_wear_28 _ _ _ _ _ _ _ _ _ _ _ _) ?_
    refine wp_of (uf_X5_wear_29 _ _ _ _ _ _ _ _ _ _ _ _ _) ?_
    refine wp_ck (i_inb (by omega) (by omega)) ?_
    refine wp_nm (fun y_7 h_y_7 => ?_)
    have t_y_7 : y_7.toInt = ((mm_ig v_worn x1)).toInt := by rw [h_y_7]
    have n_3 : (2 : Int32).toInt = 2 := by decide
    refine wp_ck (i_nz (by omega)) ?_
    refine wp_ck (i_nz (by omega)) ?_
    refine wp_ck (i_inb (by omega) (by omega)) ?_
    refine wp_bd3 (sf_X2_worth hN h_3 h_4 h_5 h_6) (fun r_11 w_12 w_13 q_4 => ?_)
    refine wp_nm (fun y_15 _ => ?_)
    refine wp_ck (i_inb (by omega) (by omega)) ?_
    refine wp_nm (fun l_17 h_l_17 => ?_)
    have nl_l_17 : l_17.length = 64 := by rw [h_l_17, is_len]; assumption
    refine wp_ck (i_inb (by omega) (by omega)) ?_
    refine wp_nm (fun y_19 h_y_19 => ?_)
    have t_y_19 : y_19.toInt = ((mm_ig v_bend x1)).toInt := by rw [h_y_19]
    refine wp_ck (i_inb (by omega) (by omega)) ?_
    refine wp_nm (fun l_21 h_l_21 => ?_)
    have nl_l_21 : l_21.length = 64 := by rw [h_l_21, is_len]; assumption
    refine wp_ck (i_inb (by omega) (by omega)) ?_
    refine wp_nm (fun y_23 _ => ?_)
    refine wp_nm (fun y_24 _ => ?_)
    exact wp_so6 ⟨nl_l_17, nl_l_21, q_4⟩
  ·
    have dc_1 := i_ne c_1
    refine wp_ck (i_inb (by omega) (by omega)) ?_
    refine wp_ck (i_inb (by omega) (by omega)) ?_
    refine wp_if (fun c_5 => ?_) (fun c_5 => ?_)
    ·
      have dc_5 := i_eq c_5
      refine wp_of (uf_X5_wear_28 _ _ _ _ _ _ _ _ _ _ _ _) ?_
      refine wp_of (uf_X5_wear_29 _ _ _ _ _ _ _ _ _ _ _ _ _) ?_
      refine wp_ck (i_inb (by omega) (by omega)) ?_
      refine wp_nm (fun y_7__6 h_y_7__6 => ?_)
      have t_y_7__6 : y_7__6.toInt = ((mm_ig v_worn x1)).toInt := by rw [h_y_7__6]
      have n_7 : (2 : Int32).toInt = 2 := by decide
      refine wp_ck (i_nz (by omega)) ?_
      refine wp_ck (i_nz (by omega)) ?_
      refine wp_ck (i_inb (by omega) (by omega)) ?_
      refine wp_bd3 (sf_X2_worth hN h_3 h_4 h_5 h_6) (fun r_11__8 w_12__9 w_13__10 q_11 => ?_)
      refine wp_nm (fun y_15__12 _ => ?_)
      refine wp_ck (i_inb (by omega) (by omega)) ?_
      refine wp_nm (fun l_17__13 h_l_17__13 => ?_)
      have nl_l_17__13 : l_17__13.length = 64 := by rw [h_l_17__13, is_len]; assumption
      refine wp_ck (i_inb (by omega) (by omega)) ?_
      refine wp_nm (fun y_19__14 h_y_19__14 => ?_)
      have t_y_19__14 : y_19__14.toInt = ((mm_ig v_bend x1)).toInt := by rw [h_y_19__14]
      refine wp_ck (i_inb (by omega) (by omega)) ?_
      refine wp_nm (fun l_21__15 h_l_21__15 => ?_)
      have nl_l_21__15 : l_21__15.length = 64 := by rw [h_l_21__15, is_len]; assumption
      refine wp_ck (i_inb (by omega) (by omega)) ?_
      refine wp_nm (fun y_23__16 _ => ?_)
      refine wp_nm (fun y_24__17 _ => ?_)
      exact wp_so6 ⟨nl_l_17__13, nl_l_21__15, q_11⟩
    ·
      have dc_5 := i_ne c_5
      refine wp_of (uf_X5_wear_29 _ _ _ _ _ _ _ _ _ _ _ _ _) ?_
      refine wp_ck (i_inb (by omega) (by omega)) ?_
      refine wp_nm (fun y_7__18 h_y_7__18 => ?_)
      have t_y_7__18 : y_7__18.toInt = ((mm_ig v_worn x1)).toInt := by rw [h_y_7__18]
      have n_19 : (2 : Int32).toInt = 2 := by decide
      refine wp_ck (i_nz (by omega)) ?_
      refine wp_ck (i_nz (by omega)) ?_
      refine wp_ck (i_inb (by omega) (by omega)) ?_
      refine wp_bd3 (sf_X2_worth hN h_3 h_4 h_5 h_6) (fun r_11__20 w_12__21 w_13__22 q_23 => ?_)
      refine wp_nm (fun y_15__24 _ => ?_)
      refine wp_ck (i_inb (by omega) (by omega)) ?_
      refine wp_nm (fun l_17__25 h_l_17__25 => ?_)
      have nl_l_17__25 : l_17__25.length = 64 := by rw [h_l_17__25, is_len]; assumption
      refine wp_ck (i_inb (by omega) (by omega)) ?_
      refine wp_nm (fun y_19__26 h_y_19__26 => ?_)
      have t_y_19__26 : y_19__26.toInt = ((mm_ig v_bend x1)).toInt := by rw [h_y_19__26]
      refine wp_ck (i_inb (by omega) (by omega)) ?_
      refine wp_nm (fun l_21__27 h_l_21__27 => ?_)
      have nl_l_21__27 : l_21__27.length = 64 := by rw [h_l_21__27, is_len]; assumption
      refine wp_ck (i_inb (by omega) (by omega)) ?_
      refine wp_nm (fun y_23__28 _ => ?_)
      refine wp_nm (fun y_24__29 _ => ?_)
      exact wp_so6 ⟨nl_l_17__25, nl_l_21__27, q_23⟩

theorem uf_X5_bendAndTurn_12 (N : Nat) (n : Nat) (x1 : Int32) (x2 : Int32) (x5 : Int32) (x6 : Int32) (v_rows : Int32) (v_cols : Int32) (v_high : Int32) (v_wide : Int32) (v_folds : Int32) (v_wrong : Int32) (v_more : Int32) (v_rowOf : List Int32) (v_colOf : List Int32) (v_below : List Int32) (v_face : List Int32) (v_worn : List Int32) (v_last : List Int32) (v_bend : List Int32) (v_tall : List Int32) (p4_stepCount : Int32) (p4_stacked : Int32) (p4_steps : List Int32) (p4_stack : List Int32) : fX5_bendAndTurn_12 N (n + 1) x1 x2 x5 x6 v_rows v_cols v_high v_wide v_folds v_wrong v_more v_rowOf v_colOf v_below v_face v_worn v_last v_bend v_tall p4_stepCount p4_stacked p4_steps p4_stack = 
    mm_bd1 (fX5_fields N v_rows v_cols) (fun (r_4 : Int32) =>
    if ((2 : Int32) * r_4) ≤ x6 then
    (mm_bd7 (fX5_turn N x1 x2 v_rows v_cols v_high v_wide v_rowOf v_colOf v_below v_face v_tall) (fun (w_7 : Int32) (w_8 : Int32) (w_9 : List Int32) (w_10 : List Int32) (w_11 : List Int32) (w_12 : List Int32) (w_13 : List Int32) =>
    mm_nm ((v_folds + (1 : Int32))) (fun (y_15 : Int32) =>
    some (x5, w_7, w_8, y_15, v_wrong, v_more, w_9, w_10, w_11, w_12, v_worn, v_last, v_bend, w_13, p4_stacked, p4_stack))))
    else (mm_ck (mm_inb x6 v_bend.length) (if (mm_ig v_bend x6) = 0 then
    (fX5_bendAndTurn_43 N (fX5_bendAndTurn_12 N n) x1 x2 x5 x6 v_rows v_cols v_high v_wide v_folds v_wrong v_more v_rowOf v_colOf v_below v_face v_worn v_last v_bend v_tall p4_stepCount p4_stacked p4_steps p4_stack)
    else (mm_bd6 (fX5_wear N x6 x5 v_wrong v_more v_worn v_last v_bend p4_stepCount p4_stacked p4_steps p4_stack) (fun (w_18 : Int32) (w_19 : Int32) (w_20 : List Int32) (w_21 : List Int32) (w_22 : Int32) (w_23 : List Int32) =>
    fX5_bendAndTurn_43 N (fX5_bendAndTurn_12 N n) x1 x2 x5 x6 v_rows v_cols v_high v_wide v_folds w_18 w_19 v_rowOf v_colOf v_below v_face w_20 w_21 v_bend v_tall p4_stepCount w_22 p4_steps w_23))))) := rfl

theorem uf_X5_bendAndTurn_43 (N : Nat) (k_12 : Int32 → Int32 → Int32 → Int32 → Int32 → Int32 → Int32 → Int32 → Int32 → Int32 → Int32 → List Int32 → List Int32 → List Int32 → List Int32 → List Int32 → List Int32 → List Int32 → List Int32 → Int32 → Int32 → List Int32 → List Int32 → Option (Int32 × Int32 × Int32 × Int32 × Int32 × Int32 × List Int32 × List Int32 × List Int32 × List Int32 × List Int32 × List Int32 × List Int32 × List Int32 × Int32 × List Int32)) (x1 : Int32) (x2 : Int32) (x5 : Int32) (x6 : Int32) (v_rows : Int32) (v_cols : Int32) (v_high : Int32) (v_wide : Int32) (v_folds : Int32) (v_wrong : Int32) (v_more : Int32) (v_rowOf : List Int32) (v_colOf : List Int32) (v_below : List Int32) (v_face : List Int32) (v_worn : List Int32) (v_last : List Int32) (v_bend : List Int32) (v_tall : List Int32) (p4_stepCount : Int32) (p4_stacked : Int32) (p4_steps : List Int32) (p4_stack : List Int32) : fX5_bendAndTurn_43 N k_12 x1 x2 x5 x6 v_rows v_cols v_high v_wide v_folds v_wrong v_more v_rowOf v_colOf v_below v_face v_worn v_last v_bend v_tall p4_stepCount p4_stacked p4_steps p4_stack = mm_nm (x6 + (1 : Int32)) (fun (y_25 : Int32) =>
    k_12 x1 x2 x5 y_25 v_rows v_cols v_high v_wide v_folds v_wrong v_more v_rowOf v_colOf v_below v_face v_worn v_last v_bend v_tall p4_stepCount p4_stacked p4_steps p4_stack) := rfl

set_option maxHeartbeats 4000000 in
set_option maxRecDepth 20000 in
theorem sf_X5_bendAndTurn_12 {N : Nat} (hN : 700 ≤ N)  : ∀ (n : Nat) (x1 : Int32) (x2 : Int32) (x5 : Int32) (x6 : Int32) (v_rows : Int32) (v_cols : Int32) (v_high : Int32) (v_wide : Int32) (v_folds : Int32) (v_wrong : Int32) (v_more : Int32) (v_rowOf : List Int32) (v_colOf : List Int32) (v_below : List Int32) (v_face : List Int32) (v_worn : List Int32) (v_last : List Int32) (v_bend : List Int32) (v_tall : List Int32) (p4_stepCount : Int32) (p4_stacked : Int32) (p4_steps : List Int32) (p4_stack : List Int32), 1 ≤ v_rows.toInt → v_rows.toInt ≤ 4 → 1 ≤ v_cols.toInt → v_cols.toInt ≤ 8 → 1 ≤ v_high.toInt → v_high.toInt ≤ 4 → 1 ≤ v_wide.toInt → v_wide.toInt ≤ 8 → v_rowOf.length = 32 → v_colOf.length = 32 → v_below.length = 32 → v_face.length = 32 → v_worn.length = 64 → v_last.length = 64 → v_bend.length = 64 → v_tall.length = 32 → zn v_rowOf 0 (v_rows.toInt * v_cols.toInt) 0 v_high.toInt → zn v_colOf 0 (v_rows.toInt * v_cols.toInt) 0 v_wide.toInt → 0 ≤ p4_stepCount.toInt → p4_stepCount.toInt ≤ 121 → p4_steps.length = 121 → p4_stack.length = 121 → 1 ≤ x1.toInt → (x2.toInt < 4 → x1.toInt < v_wide.toInt) → (4 ≤ x2.toInt → x1.toInt < v_high.toInt) → 0 ≤ x6.toInt → x6.toInt ≤ 2 * (v_rows.toInt * v_cols.toInt) → (2 * (v_rows.toInt * v_cols.toInt) - x6.toInt).toNat < n → wp (fX5_bendAndTurn_12 N n x1 x2 x5 x6 v_rows v_cols v_high v_wide v_folds v_wrong v_more v_rowOf v_colOf v_below v_face v_worn v_last v_bend v_tall p4_stepCount p4_stacked p4_steps p4_stack) (cu16 (fun (r : Int32) (wv_high : Int32) (wv_wide : Int32) (wv_folds : Int32) (wv_wrong : Int32) (wv_more : Int32) (wv_rowOf : List Int32) (wv_colOf : List Int32) (wv_below : List Int32) (wv_face : List Int32) (wv_worn : List Int32) (wv_last : List Int32) (wv_bend : List Int32) (wv_tall : List Int32) (wp4_stacked : Int32) (wp4_stack : List Int32) => 1 ≤ wv_high.toInt ∧ wv_high.toInt ≤ 4 ∧ 1 ≤ wv_wide.toInt ∧ wv_wide.toInt ≤ 8 ∧ wv_rowOf.length = 32 ∧ wv_colOf.length = 32 ∧ wv_below.length = 32 ∧ wv_face.length = 32 ∧ wv_worn.length = 64 ∧ wv_last.length = 64 ∧ wv_bend.length = 64 ∧ wv_tall.length = 32 ∧ zn wv_rowOf 0 (v_rows.toInt * v_cols.toInt) 0 wv_high.toInt ∧ zn wv_colOf 0 (v_rows.toInt * v_cols.toInt) 0 wv_wide.toInt ∧ wp4_stack.length = 121)) := by
  intro n
  induction n with
  | zero =>
    intro x1 x2 x5 x6 v_rows v_cols v_high v_wide v_folds v_wrong v_more v_rowOf v_colOf v_below v_face v_worn v_last v_bend v_tall p4_stepCount p4_stacked p4_steps p4_stack h_0 h_1 h_2 h_3 h_4 h_5 h_6 h_7 h_8 h_9 h_10 h_11 h_12 h_13 h_14 h_15 h_16 h_17 h_18 h_19 h_20 h_21 h_22 h_23 h_24 h_25 h_26 hm
    exact absurd hm (by omega)
  | succ n ih =>
    intro x1 x2 x5 x6 v_rows v_cols v_high v_wide v_folds v_wrong v_more v_rowOf v_colOf v_below v_face v_worn v_last v_bend v_tall p4_stepCount p4_stacked p4_steps p4_stack h_0 h_1 h_2 h_3 h_4 h_5 h_6 h_7 h_8 h_9 h_10 h_11 h_12 h_13 h_14 h_15 h_16 h_17 h_18 h_19 h_20 h_21 h_22 h_23 h_24 h_25 h_26 hm
    have m3 := (i_fl (a := v_rows) (b := v_cols) (by omega) (by omega) (by omega) (by omega)).2
    refine wp_of (uf_X5_bendAndTurn_12 _ _ _ _ _ _ _ _ _ _ _ _ _ _ _ _ _ _ _ _ _ _ _ _ _) ?_
    refine wp_bd1 (sf_X5_fields hN h_0 h_1 h_2 h_3) (fun r_4 ⟨q_1, q_2, q_3⟩ => ?_)
    have n_5 : (2 : Int32).toInt = 2 := by decide
    generalize hz_z : ((2 : Int32) * r_4) = z
    have e_6 := i_mulLE (c := 2) (by decide) hz_z (by omega) (by omega)
    refine wp_if (fun c_4 => ?_) (fun c_4 => ?_)
    ·
      have dc_4 := i_le c_4
      refine wp_bd7 (sf_X5_turn hN h_0 h_1 h_2 h_3 h_4 h_5 h_6 h_7 h_8 h_9 h_10 h_11 h_15 h_16 h_17 h_22 h_23 h_24) (fun w_7 w_8 w_9 w_10 w_11 w_12 w_13 ⟨q_7, q_8, q_9, q_10, q_11, q_12, q_13, q_14, q_15, q_16, q_17⟩ => ?_)
      refine wp_nm (fun y_15 _ => ?_)
      exact wp_so16 ⟨q_7, q_8, q_9, q_10, q_11, q_12, q_13, q_14, h_12, h_13, h_14, q_15, q_16, q_17, h_21⟩
    ·
      have dc_4 := i_nle c_4
      refine wp_ck (i_inb (by omega) (by omega)) ?_
      have n_19 : (0 : Int32).toInt = 0 := by decide
      refine wp_if (fun c_18 => ?_) (fun c_18 => ?_)
      ·
        have dc_18 := i_eq c_18
        refine wp_of (uf_X5_bendAndTurn_43 _ _ _ _ _ _ _ _ _ _ _ _ _ _ _ _ _ _ _ _ _ _ _ _ _) ?_
        have n_20 : (1 : Int32).toInt = 1 := by decide
        refine wp_nm (fun y_25 h_y_25 => ?_)
        have e_21 := i_addE h_y_25.symm (by omega) (by omega)
        exact ih _ _ _ _ _ _ _ _ _ _ _ _ _ _ _ _ _ _ _ _ _ _ _ h_0 h_1 h_2 h_3 h_4 h_5 h_6 h_7 h_8 h_9 h_10 h_11 h_12 h_13 h_14 h_15 h_16 h_17 h_18 h_19 h_20 h_21 h_22 h_23 h_24 (by omega) (by omega) (by omega)
      ·
        have dc_18 := i_ne c_18
        refine wp_bd6 (sf_X5_wear hN h_12 h_13 h_14 h_18 h_19 h_20 h_21 h_25 (by omega)) (fun w_18 w_19 w_20 w_21 w_22 w_23 ⟨q_22, q_23, q_24⟩ => ?_)
        refine wp_of (uf_X5_bendAndTurn_43 _ _ _ _ _ _ _ _ _ _ _ _ _ _ _ _ _ _ _ _ _ _ _ _ _) ?_
        have n_26 : (1 : Int32).toInt = 1 := by decide
        refine wp_nm (fun y_25__25 h_y_25__25 => ?_)
        have e_27 := i_addE h_y_25__25.symm (by omega) (by omega)
        exact ih _ _ _ _ _ _ _ _ _ _ _ _ _ _ _ _ _ _ _ _ _ _ _ h_0 h_1 h_2 h_3 h_4 h_5 h_6 h_7 h_8 h_9 h_10 h_11 q_22 q_23 h_14 h_15 h_16 h_17 h_18 h_19 h_20 q_24 h_22 h_23 h_24 (by omega) (by omega) (by omega)

theorem uf_X5_bendAndTurn (N : Nat) (x1 : Int32) (x2 : Int32) (x3 : Int32) (v_rows : Int32) (v_cols : Int32) (v_high : Int32) (v_wide : Int32) (v_folds : Int32) (v_wrong : Int32) (v_more : Int32) (v_rowOf : List Int32) (v_colOf : List Int32) (v_below : List Int32) (v_face : List Int32) (v_worn : List Int32) (v_last : List Int32) (v_bend : List Int32) (v_tall : List Int32) (p4_stepCount : Int32) (p4_stacked : Int32) (p4_steps : List Int32) (p4_stack : List Int32) : fX5_bendAndTurn N x1 x2 x3 v_rows v_cols v_high v_wide v_folds v_wrong v_more v_rowOf v_colOf v_below v_face v_worn v_last v_bend v_tall p4_stepCount p4_stacked p4_steps p4_stack = mm_bd2 (fX5_markBends N x1 x2 x3 v_rows v_cols v_rowOf v_colOf v_face v_worn v_bend) (fun (r_1 : Int32) (w_2 : List Int32) =>
    fX5_bendAndTurn_12 N N x1 x2 r_1 (0 : Int32) v_rows v_cols v_high v_wide v_folds v_wrong v_more v_rowOf v_colOf v_below v_face v_worn v_last w_2 v_tall p4_stepCount p4_stacked p4_steps p4_stack) := rfl

set_option maxHeartbeats 4000000 in
set_option maxRecDepth 20000 in
theorem sf_X5_bendAndTurn {N : Nat} (hN : 700 ≤ N) {x1 : Int32} {x2 : Int32} {x3 : Int32} {v_rows : Int32} {v_cols : Int32} {v_high : Int32} {v_wide : Int32} {v_folds : Int32} {v_wrong : Int32} {v_more : Int32} {v_rowOf : List Int32} {v_colOf : List Int32} {v_below : List Int32} {v_face : List Int32} {v_worn : List Int32} {v_last : List Int32} {v_bend : List Int32} {v_tall : List Int32} {p4_stepCount : Int32} {p4_stacked : Int32} {p4_steps : List Int32} {p4_stack : List Int32} (h_0 : 1 ≤ v_rows.toInt) (h_1 : v_rows.toInt ≤ 4) (h_2 : 1 ≤ v_cols.toInt) (h_3 : v_cols.toInt ≤ 8) (h_4 : 1 ≤ v_high.toInt) (h_5 : v_high.toInt ≤ 4) (h_6 : 1 ≤ v_wide.toInt) (h_7 : v_wide.toInt ≤ 8) (h_8 : v_rowOf.length = 32) (h_9 : v_colOf.length = 32) (h_10 : v_below.length = 32) (h_11 : v_face.length = 32) (h_12 : v_worn.length = 64) (h_13 : v_last.length = 64) (h_14 : v_bend.length = 64) (h_15 : v_tall.length = 32) (h_16 : zn v_rowOf 0 (v_rows.toInt * v_cols.toInt) 0 v_high.toInt) (h_17 : zn v_colOf 0 (v_rows.toInt * v_cols.toInt) 0 v_wide.toInt) (h_18 : 0 ≤ p4_stepCount.toInt) (h_19 : p4_stepCount.toInt ≤ 121) (h_20 : p4_steps.length = 121) (h_21 : p4_stack.length = 121) (h_22 : 1 ≤ x1.toInt) (h_23 : (x2.toInt < 4 → x1.toInt < v_wide.toInt)) (h_24 : (4 ≤ x2.toInt → x1.toInt < v_high.toInt)) : wp (fX5_bendAndTurn N x1 x2 x3 v_rows v_cols v_high v_wide v_folds v_wrong v_more v_rowOf v_colOf v_below v_face v_worn v_last v_bend v_tall p4_stepCount p4_stacked p4_steps p4_stack) (cu16 (fun (r : Int32) (wv_high : Int32) (wv_wide : Int32) (wv_folds : Int32) (wv_wrong : Int32) (wv_more : Int32) (wv_rowOf : List Int32) (wv_colOf : List Int32) (wv_below : List Int32) (wv_face : List Int32) (wv_worn : List Int32) (wv_last : List Int32) (wv_bend : List Int32) (wv_tall : List Int32) (wp4_stacked : Int32) (wp4_stack : List Int32) => 1 ≤ wv_high.toInt ∧ wv_high.toInt ≤ 4 ∧ 1 ≤ wv_wide.toInt ∧ wv_wide.toInt ≤ 8 ∧ wv_rowOf.length = 32 ∧ wv_colOf.length = 32 ∧ wv_below.length = 32 ∧ wv_face.length = 32 ∧ wv_worn.length = 64 ∧ wv_last.length = 64 ∧ wv_bend.length = 64 ∧ wv_tall.length = 32 ∧ zn wv_rowOf 0 (v_rows.toInt * v_cols.toInt) 0 wv_high.toInt ∧ zn wv_colOf 0 (v_rows.toInt * v_cols.toInt) 0 wv_wide.toInt ∧ wp4_stack.length = 121)) := by
  have m3 := (i_fl (a := v_rows) (b := v_cols) (by omega) (by omega) (by omega) (by omega)).2
  refine wp_of (uf_X5_bendAndTurn _ _ _ _ _ _ _ _ _ _ _ _ _ _ _ _ _ _ _ _ _ _ _) ?_
  refine wp_bd2 (sf_X5_markBends hN h_0 h_1 h_2 h_3 h_8 h_9 h_11 h_12 h_14) (fun r_1 w_2 q_1 => ?_)
  have n_2 : (0 : Int32).toInt = 0 := by decide
  exact sf_X5_bendAndTurn_12 hN _ _ _ _ _ _ _ _ _ _ _ _ _ _ _ _ _ _ _ _ _ _ _ _ h_0 h_1 h_2 h_3 h_4 h_5 h_6 h_7 h_8 h_9 h_10 h_11 h_12 h_13 q_1 h_15 h_16 h_17 h_18 h_19 h_20 h_21 h_22 h_23 h_24 (by omega) (by omega) (by omega)
