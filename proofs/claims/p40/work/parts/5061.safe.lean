/-! safe -/
theorem uf_X9_isOrder_10 (N : Nat) (n : Nat) (x1 : Int32) (x3 : Int32) (x4 : Int32) (x5 : Int32) (v_order1 : List Int32) (v_placeIn : List Int32) : fX9_isOrder_10 N (n + 1) x1 x3 x4 x5 v_order1 v_placeIn = 
    if x5 < 0 then
    (if x4 = 0 then
    (some (true, v_order1, v_placeIn))
    else (some (false, v_order1, v_placeIn)))
    else (mm_ck (mm_nz (10 : Int32)) (mm_nm (((mm_rem x4 (10 : Int32)) - (1 : Int32))) (fun (y_5 : Int32) =>
    if x4 ≤ 0 then
    (some (false, v_order1, v_placeIn))
    else (mm_bd1 (fX9_within N ((y_5).toInt64) (0 : Int64) ((x1 - (1 : Int32)).toInt64)) (fun (r_7 : Bool) =>
    if r_7 = false then
    (some (false, v_order1, v_placeIn))
    else (if ((x3 >>> (y_5 &&& 31)) &&& (1 : Int32)) = (1 : Int32) then
    (some (false, v_order1, v_placeIn))
    else (mm_nm ((x3 ||| ((1 : Int32) <<< (y_5 &&& 31)))) (fun (y_11 : Int32) =>
    mm_ck (mm_inb x5 v_order1.length) (mm_nm (mm_is v_order1 x5 y_5) (fun (l_13 : List Int32) =>
    mm_ck (mm_inb y_5 v_placeIn.length) (mm_nm (mm_is v_placeIn y_5 x5) (fun (l_15 : List Int32) =>
    mm_ck (mm_nz (10 : Int32)) (mm_nm ((x4 / (10 : Int32))) (fun (y_17 : Int32) =>
    mm_nm (x5 + (-1 : Int32)) (fun (y_18 : Int32) =>
    fX9_isOrder_10 N n x1 y_11 y_17 y_18 l_13 l_15))))))))))))))) := rfl

set_option maxHeartbeats 4000000 in
set_option maxRecDepth 20000 in
theorem sf_X9_isOrder_10 {N : Nat} (hN : 700 ≤ N)  : ∀ (n : Nat) (x1 : Int32) (x3 : Int32) (x4 : Int32) (x5 : Int32) (v_order1 : List Int32) (v_placeIn : List Int32), v_order1.length = 7 → v_placeIn.length = 7 → 2 ≤ x1.toInt → x1.toInt ≤ 7 → -1 ≤ x5.toInt → x5.toInt < 7 → (x5.toInt + 1).toNat < n → wp (fX9_isOrder_10 N n x1 x3 x4 x5 v_order1 v_placeIn) (cu3 (fun (r : Bool) (wv_order1 : List Int32) (wv_placeIn : List Int32) => wv_order1.length = 7 ∧ wv_placeIn.length = 7)) := by
  intro n
  induction n with
  | zero =>
    intro x1 x3 x4 x5 v_order1 v_placeIn h_0 h_1 h_2 h_3 h_4 h_5 hm
    exact absurd hm (by omega)
  | succ n ih =>
    intro x1 x3 x4 x5 v_order1 v_placeIn h_0 h_1 h_2 h_3 h_4 h_5 hm
    refine wp_of (uf_X9_isOrder_10 _ _ _ _ _ _ _ _) ?_
    have n_2 : (0 : Int32).toInt = 0 := by decide
    refine wp_if (fun c_1 => ?_) (fun c_1 => ?_)
    ·
      have dc_1 := i_lt c_1
      refine wp_if (fun c_3 => ?_) (fun c_3 => ?_)
      ·
        have dc_3 := i_eq c_3
        exact wp_so3 ⟨h_0, h_1⟩
      ·
        have dc_3 := i_ne c_3
        exact wp_so3 ⟨h_0, h_1⟩
    ·
      have dc_1 := i_nlt c_1
      have n_4 : (10 : Int32).toInt = 10 := by decide
      refine wp_ck (i_nz (by omega)) ?_
      refine wp_nm (fun y_5 _ => ?_)
      refine wp_if (fun c_5 => ?_) (fun c_5 => ?_)
      ·
        have dc_5 := i_le c_5
        exact wp_so3 ⟨h_0, h_1⟩
      ·
        have dc_5 := i_nle c_5
        have n_6 := i_64 y_5
        have n_7 : (0 : Int64).toInt = 0 := by decide
        have n_8 : (1 : Int32).toInt = 1 := by decide
        generalize hz_z : (x1 - (1 : Int32)) = z
        have e_9 := i_subE hz_z (by omega) (by omega)
        have n_10 := i_64 z
        refine wp_bd1 (sf_X9_within hN ) (fun r_7 q_11 => ?_)
        rcases q_11 with ⟨rfl, q_11⟩ | ⟨rfl, q_11⟩
        ·
          refine wp_ifn (by decide) ?_
          refine wp_if (fun c_12 => ?_) (fun c_12 => ?_)
          ·
            have dc_12 := i_eq c_12
            exact wp_so3 ⟨h_0, h_1⟩
          ·
            have dc_12 := i_ne c_12
            refine wp_nm (fun y_11 _ => ?_)
            refine wp_ck (i_inb (by omega) (by omega)) ?_
            refine wp_nm (fun l_13 h_l_13 => ?_)
            have nl_l_13 : l_13.length = 7 := by rw [h_l_13, is_len]; assumption
            refine wp_ck (i_inb (by omega) (by omega)) ?_
            refine wp_nm (fun l_15 h_l_15 => ?_)
            have nl_l_15 : l_15.length = 7 := by rw [h_l_15, is_len]; assumption
            refine wp_ck (i_nz (by omega)) ?_
            refine wp_nm (fun y_17 h_y_17 => ?_)
            have e_13 := i_divL (c := 10) (by decide) (by decide) h_y_17.symm
            have n_14 : (-1 : Int32).toInt = -1 := by decide
            refine wp_nm (fun y_18 h_y_18 => ?_)
            have e_15 := i_addE h_y_18.symm (by omega) (by omega)
            exact ih _ _ _ _ _ _ nl_l_13 nl_l_15 h_2 h_3 (by omega) (by omega) (by omega)
        ·
          refine wp_ifp (by decide) ?_
          exact wp_so3 ⟨h_0, h_1⟩

theorem uf_X9_isOrder (N : Nat) (x1 : Int32) (x2 : Int32) (v_order1 : List Int32) (v_placeIn : List Int32) : fX9_isOrder N x1 x2 v_order1 v_placeIn = mm_nm ((x1 - (1 : Int32))) (fun (y_1 : Int32) =>
    fX9_isOrder_10 N N x1 (0 : Int32) x2 y_1 v_order1 v_placeIn) := rfl

set_option maxHeartbeats 4000000 in
set_option maxRecDepth 20000 in
theorem sf_X9_isOrder {N : Nat} (hN : 700 ≤ N) {x1 : Int32} {x2 : Int32} {v_order1 : List Int32} {v_placeIn : List Int32} (h_0 : v_order1.length = 7) (h_1 : v_placeIn.length = 7) (h_2 : 2 ≤ x1.toInt) (h_3 : x1.toInt ≤ 7) : wp (fX9_isOrder N x1 x2 v_order1 v_placeIn) (cu3 (fun (r : Bool) (wv_order1 : List Int32) (wv_placeIn : List Int32) => wv_order1.length = 7 ∧ wv_placeIn.length = 7)) := by
  refine wp_of (uf_X9_isOrder _ _ _ _ _) ?_
  have n_1 : (1 : Int32).toInt = 1 := by decide
  refine wp_nm (fun y_1 h_y_1 => ?_)
  have e_2 := i_subE h_y_1.symm (by omega) (by omega)
  exact sf_X9_isOrder_10 hN _ _ _ _ _ _ _ h_0 h_1 h_2 h_3 (by omega) (by omega) (by omega)

theorem uf_X9_isInside (N : Nat) (x1 : Int32) (x2 : Int32) (v_placeIn : List Int32) : fX9_isInside N x1 x2 v_placeIn = mm_ck (mm_inb x2 v_placeIn.length) (mm_nm ((mm_ig v_placeIn x2)) (fun (y_2 : Int32) =>
    mm_ck (mm_inb (x2 + (1 : Int32)) v_placeIn.length) (mm_nm ((mm_ig v_placeIn (x2 + (1 : Int32)))) (fun (y_4 : Int32) =>
    if y_4 ≤ y_2 then
    (if x1 ≤ y_4 then
    (some (false))
    else (if y_2 ≤ x1 then
    (some (false))
    else (some (true))))
    else (if x1 ≤ y_2 then
    (some (false))
    else (if y_4 ≤ x1 then
    (some (false))
    else (some (true)))))))) := rfl

set_option maxHeartbeats 4000000 in
set_option maxRecDepth 20000 in
theorem sf_X9_isInside {N : Nat} (hN : 700 ≤ N) {x1 : Int32} {x2 : Int32} {v_placeIn : List Int32} (h_0 : v_placeIn.length = 7) (h_1 : 0 ≤ x2.toInt) (h_2 : x2.toInt < 6) : wp (fX9_isInside N x1 x2 v_placeIn) (fun (r : Bool) => True) := by
  refine wp_of (uf_X9_isInside _ _ _ _) ?_
  refine wp_ck (i_inb (by omega) (by omega)) ?_
  refine wp_nm (fun y_2 h_y_2 => ?_)
  have t_y_2 : y_2.toInt = ((mm_ig v_placeIn x2)).toInt := by rw [h_y_2]
  have n_1 : (1 : Int32).toInt = 1 := by decide
  generalize hz_z : (x2 + (1 : Int32)) = z
  have e_2 := i_addE hz_z (by omega) (by omega)
  refine wp_ck (i_inb (by omega) (by omega)) ?_
  refine wp_nm (fun y_4 h_y_4 => ?_)
  have t_y_4 : y_4.toInt = ((mm_ig v_placeIn z)).toInt := by rw [h_y_4]
  refine wp_if (fun c_3 => ?_) (fun c_3 => ?_)
  ·
    have dc_3 := i_le c_3
    refine wp_if (fun c_4 => ?_) (fun c_4 => ?_)
    ·
      have dc_4 := i_le c_4
      exact wp_so1 trivial
    ·
      have dc_4 := i_nle c_4
      refine wp_if (fun c_5 => ?_) (fun c_5 => ?_)
      ·
        have dc_5 := i_le c_5
        exact wp_so1 trivial
      ·
        have dc_5 := i_nle c_5
        exact wp_so1 trivial
  ·
    have dc_3 := i_nle c_3
    refine wp_if (fun c_6 => ?_) (fun c_6 => ?_)
    ·
      have dc_6 := i_le c_6
      exact wp_so1 trivial
    ·
      have dc_6 := i_nle c_6
      refine wp_if (fun c_7 => ?_) (fun c_7 => ?_)
      ·
        have dc_7 := i_le c_7
        exact wp_so1 trivial
      ·
        have dc_7 := i_nle c_7
        exact wp_so1 trivial

theorem uf_X9_areCrossed (N : Nat) (x1 : Int32) (x2 : Int32) (v_placeIn : List Int32) : fX9_areCrossed N x1 x2 v_placeIn = mm_ck (mm_inb x2 v_placeIn.length) (mm_bd1 (fX9_isInside N (mm_ig v_placeIn x2) x1 v_placeIn) (fun (r_2 : Bool) =>
    mm_ck (mm_inb (x2 + (1 : Int32)) v_placeIn.length) (mm_bd1 (fX9_isInside N (mm_ig v_placeIn (x2 + (1 : Int32))) x1 v_placeIn) (fun (r_5 : Bool) =>
    if (mm_b r_2) = (mm_b r_5) then
    (some (false))
    else (mm_ck (mm_inb x1 v_placeIn.length) (mm_bd1 (fX9_isInside N (mm_ig v_placeIn x1) x2 v_placeIn) (fun (r_9 : Bool) =>
    mm_ck (mm_inb (x1 + (1 : Int32)) v_placeIn.length) (mm_bd1 (fX9_isInside N (mm_ig v_placeIn (x1 + (1 : Int32))) x2 v_placeIn) (fun (r_12 : Bool) =>
    if (mm_b r_9) = (mm_b r_12) then
    (some (false))
    else (some (true))))))))))) := rfl

set_option maxHeartbeats 4000000 in
set_option maxRecDepth 20000 in
theorem sf_X9_areCrossed {N : Nat} (hN : 700 ≤ N) {x1 : Int32} {x2 : Int32} {v_placeIn : List Int32} (h_0 : v_placeIn.length = 7) (h_1 : 0 ≤ x1.toInt) (h_2 : x1.toInt < 6) (h_3 : 0 ≤ x2.toInt) (h_4 : x2.toInt < 6) : wp (fX9_areCrossed N x1 x2 v_placeIn) (fun (r : Bool) => True) := by
  refine wp_of (uf_X9_areCrossed _ _ _ _) ?_
  refine wp_ck (i_inb (by omega) (by omega)) ?_
  refine wp_bd1 (sf_X9_isInside hN h_0 h_1 h_2) (fun r_2 _ => ?_)
  have n_1 : (1 : Int32).toInt = 1 := by decide
  generalize hz_z : (x2 + (1 : Int32)) = z
  have e_2 := i_addE hz_z (by omega) (by omega)
  refine wp_ck (i_inb (by omega) (by omega)) ?_
  refine wp_bd1 (sf_X9_isInside hN h_0 h_1 h_2) (fun r_5 _ => ?_)
  generalize hz_z__4 : (mm_b r_2) = z__4
  obtain ⟨e_5, e1_5⟩ := i_bY hz_z__4
  generalize hz_z__6 : (mm_b r_5) = z__6
  obtain ⟨e_7, e1_7⟩ := i_bY hz_z__6
  refine wp_if (fun c_3 => ?_) (fun c_3 => ?_)
  ·
    have dc_3 := i_eq c_3
    exact wp_so1 trivial
  ·
    have dc_3 := i_ne c_3
    refine wp_ck (i_inb (by omega) (by omega)) ?_
    refine wp_bd1 (sf_X9_isInside hN h_0 h_3 h_4) (fun r_9 _ => ?_)
    generalize hz_z__8 : (x1 + (1 : Int32)) = z__8
    have e_9 := i_addE hz_z__8 (by omega) (by omega)
    refine wp_ck (i_inb (by omega) (by omega)) ?_
    refine wp_bd1 (sf_X9_isInside hN h_0 h_3 h_4) (fun r_12 _ => ?_)
    generalize hz_z__11 : (mm_b r_9) = z__11
    obtain ⟨e_12, e1_12⟩ := i_bY hz_z__11
    generalize hz_z__13 : (mm_b r_12) = z__13
    obtain ⟨e_14, e1_14⟩ := i_bY hz_z__13
    refine wp_if (fun c_10 => ?_) (fun c_10 => ?_)
    ·
      have dc_10 := i_eq c_10
      exact wp_so1 trivial
    ·
      have dc_10 := i_ne c_10
      exact wp_so1 trivial

theorem uf_X9_firstCross_13 (N : Nat) (k_2 : Int32 → Int32 → List Int32 → Option (Int32)) (n : Nat) (x1 : Int32) (x2 : Int32) (x3 : Int32) (v_placeIn : List Int32) : fX9_firstCross_13 N k_2 (n + 1) x1 x2 x3 v_placeIn = 
    if x1 ≤ (x3 + (1 : Int32)) then
    (mm_nm (x2 + (1 : Int32)) (fun (y_4 : Int32) =>
    k_2 x1 y_4 v_placeIn))
    else (mm_bd1 (fX9_areCrossed N x2 x3 v_placeIn) (fun (r_5 : Bool) =>
    if r_5 = false then
    (mm_nm (x3 + (2 : Int32)) (fun (y_8 : Int32) =>
    fX9_firstCross_13 N k_2 n x1 x2 y_8 v_placeIn))
    else (some ((((10 : Int32) * x2) + x3))))) := rfl

set_option maxHeartbeats 4000000 in
set_option maxRecDepth 20000 in
theorem sf_X9_firstCross_13 {N : Nat} (hN : 700 ≤ N) {B : Nat} {k_2 : Int32 → Int32 → List Int32 → Option (Int32)} (hk_2 : ∀ (x1 : Int32) (x2 : Int32) (v_placeIn : List Int32), v_placeIn.length = 7 → 2 ≤ x1.toInt → x1.toInt ≤ 7 → 0 ≤ x2.toInt → x2.toInt ≤ 7 → (8 - x2.toInt).toNat < B → wp (k_2 x1 x2 v_placeIn) (fun (r : Int32) => True)) : ∀ (n : Nat) (x1 : Int32) (x2 : Int32) (x3 : Int32) (v_placeIn : List Int32), v_placeIn.length = 7 → 2 ≤ x1.toInt → x1.toInt ≤ 7 → 0 ≤ x2.toInt → x2.toInt < 7 → x2.toInt + 1 < x1.toInt → 0 ≤ x3.toInt → x3.toInt ≤ 9 → (8 - x2.toInt).toNat < B + 1 → (10 - x3.toInt).toNat < n → wp (fX9_firstCross_13 N k_2 n x1 x2 x3 v_placeIn) (fun (r : Int32) => True) := by
  intro n
  induction n with
  | zero =>
    intro x1 x2 x3 v_placeIn h_0 h_1 h_2 h_3 h_4 h_5 h_6 h_7 h_8 hm
    exact absurd hm (by omega)
  | succ n ih =>
    intro x1 x2 x3 v_placeIn h_0 h_1 h_2 h_3 h_4 h_5 h_6 h_7 h_8 hm
    refine wp_of (uf_X9_firstCross_13 _ _ _ _ _ _ _) ?_
    have n_2 : (1 : Int32).toInt = 1 := by decide
    generalize hz_z : (x3 + (1 : Int32)) = z
    have e_3 := i_addE hz_z (by omega) (by omega)
    refine wp_if (fun c_1 => ?_) (fun c_1 => ?_)
    ·
      have dc_1 := i_le c_1
      refine wp_nm (fun y_4 h_y_4 => ?_)
      have e_4 := i_addE h_y_4.symm (by omega) (by omega)
      exact hk_2 _ _ _ h_0 h_1 h_2 (by omega) (by omega) (by omega)
    ·
      have dc_1 := i_nle c_1
      refine wp_bd1 (sf_X9_areCrossed hN h_0 h_3 (by omega) h_6 (by omega)) (fun r_5 _ => ?_)
      refine wp_if (fun c_5 => ?_) (fun c_5 => ?_)
      ·
        have n_6 : (2 : Int32).toInt = 2 := by decide
        refine wp_nm (fun y_8 h_y_8 => ?_)
        have e_7 := i_addE h_y_8.symm (by omega) (by omega)
        exact ih _ _ _ _ h_0 h_1 h_2 h_3 h_4 h_5 (by omega) (by omega) h_8 (by omega)
      ·
        exact wp_so1 trivial

theorem uf_X9_firstCross_2 (N : Nat) (n : Nat) (x1 : Int32) (x2 : Int32) (v_placeIn : List Int32) : fX9_firstCross_2 N (n + 1) x1 x2 v_placeIn = 
    if x1 ≤ (x2 + (1 : Int32)) then
    (some ((-2 : Int32)))
    else (mm_nm ((x2 + (2 : Int32))) (fun (y_2 : Int32) =>
    fX9_firstCross_13 N (fX9_firstCross_2 N n) N x1 x2 y_2 v_placeIn)) := rfl

set_option maxHeartbeats 4000000 in
set_option maxRecDepth 20000 in
theorem sf_X9_firstCross_2 {N : Nat} (hN : 700 ≤ N)  : ∀ (n : Nat) (x1 : Int32) (x2 : Int32) (v_placeIn : List Int32), v_placeIn.length = 7 → 2 ≤ x1.toInt → x1.toInt ≤ 7 → 0 ≤ x2.toInt → x2.toInt ≤ 7 → (8 - x2.toInt).toNat < n → wp (fX9_firstCross_2 N n x1 x2 v_placeIn) (fun (r : Int32) => True) := by
  intro n
  induction n with
  | zero =>
    intro x1 x2 v_placeIn h_0 h_1 h_2 h_3 h_4 hm
    exact absurd hm (by omega)
  | succ n ih =>
    intro x1 x2 v_placeIn h_0 h_1 h_2 h_3 h_4 hm
    refine wp_of (uf_X9_firstCross_2 _ _ _ _ _) ?_
    have n_2 : (1 : Int32).toInt = 1 := by decide
    generalize hz_z : (x2 + (1 : Int32)) = z
    have e_3 := i_addE hz_z (by omega) (by omega)
    refine wp_if (fun c_1 => ?_) (fun c_1 => ?_)
    ·
      have dc_1 := i_le c_1
      exact wp_so1 trivial
    ·
      have dc_1 := i_nle c_1
      have n_4 : (2 : Int32).toInt = 2 := by decide
      refine wp_nm (fun y_2 h_y_2 => ?_)
      have e_5 := i_addE h_y_2.symm (by omega) (by omega)
      exact sf_X9_firstCross_13 hN ih _ _ _ _ _ h_0 h_1 h_2 h_3 (by omega) (by omega) (by omega) (by omega) (by omega) (by omega)

theorem uf_X9_firstCross (N : Nat) (x1 : Int32) (v_placeIn : List Int32) : fX9_firstCross N x1 v_placeIn = fX9_firstCross_2 N N x1 (0 : Int32) v_placeIn := rfl

set_option maxHeartbeats 4000000 in
set_option maxRecDepth 20000 in
theorem sf_X9_firstCross {N : Nat} (hN : 700 ≤ N) {x1 : Int32} {v_placeIn : List Int32} (h_0 : v_placeIn.length = 7) (h_1 : 2 ≤ x1.toInt) (h_2 : x1.toInt ≤ 7) : wp (fX9_firstCross N x1 v_placeIn) (fun (r : Int32) => True) := by
  refine wp_of (uf_X9_firstCross _ _ _) ?_
  have n_1 : (0 : Int32).toInt = 0 := by decide
  exact sf_X9_firstCross_2 hN _ _ _ _ h_0 h_1 h_2 (by omega) (by omega) (by omega)

theorem uf_X9_crosses (N : Nat) (x1 : Int32) (x2 : Int32) (v_order1 : List Int32) (v_placeIn : List Int32) : fX9_crosses N x1 x2 v_order1 v_placeIn = mm_bd1 (fX9_isStrip N x1) (fun (r_1 : Bool) =>
    if r_1 = false then
    (some ((-1 : Int32), v_order1, v_placeIn))
    else (mm_bd3 (fX9_isOrder N x1 x2 v_order1 v_placeIn) (fun (r_4 : Bool) (w_5 : List Int32) (w_6 : List Int32) =>
    if r_4 = false then
    (some ((-1 : Int32), w_5, w_6))
    else (mm_bd1 (fX9_firstCross N x1 w_6) (fun (r_9 : Int32) =>
    some (r_9, w_5, w_6)))))) := rfl

theorem uf_X9_isStrip (N : Nat) (x0 : Int32) : fX9_isStrip N x0 = mm_bd1 (fX9_within N ((x0).toInt64) (2 : Int64) (7 : Int64)) (fun (r_1 : Bool) =>
    some (r_1)) := rfl

set_option maxHeartbeats 4000000 in
set_option maxRecDepth 20000 in
theorem sf_X9_crosses {N : Nat} (hN : 700 ≤ N) {x1 : Int32} {x2 : Int32} {v_order1 : List Int32} {v_placeIn : List Int32} (h_0 : v_order1.length = 7) (h_1 : v_placeIn.length = 7) : wp (fX9_crosses N x1 x2 v_order1 v_placeIn) (cu3 (fun (r : Int32) (wv_order1 : List Int32) (wv_placeIn : List Int32) => wv_order1.length = 7 ∧ wv_placeIn.length = 7)) := by
  refine wp_of (uf_X9_crosses _ _ _ _ _) ?_
  refine wp_in1 ?_
  refine wp_of (uf_X9_isStrip _ _) ?_
  have n_1 := i_64 x1
  have n_2 : (2 : Int64).toInt = 2 := by decide
  have n_3 : (7 : Int64).toInt = 7 := by decide
  refine wp_bd1 (sf_X9_within hN ) (fun r_1 q_4 => ?_)
  rcases q_4 with ⟨rfl, q_4⟩ | ⟨rfl, q_4⟩
  ·
    refine wp_so1 ?_
    show wp _ _
    refine wp_ifn (by decide) ?_
    refine wp_bd3 (sf_X9_isOrder hN h_0 h_1 (by omega) (by omega)) (fun r_4 w_5 w_6 ⟨q_5, q_6⟩ => ?_)
    refine wp_if (fun c_7 => ?_) (fun c_7 => ?_)
    ·
      exact wp_so3 ⟨q_5, q_6⟩
    ·
      refine wp_bd1 (sf_X9_firstCross hN q_6 (by omega) (by omega)) (fun r_9 _ => ?_)
      exact wp_so3 ⟨q_5, q_6⟩
  ·
    refine wp_so1 ?_
    show wp _ _
    refine wp_ifp (by decide) ?_
    exact wp_so3 ⟨h_0, h_1⟩

theorem uf_X9_bendsOf_33 (N : Nat) (k_4 : Int32 → Int32 → Int32 → List Int32 → Option (Int32)) (x1 : Int32) (x2 : Int32) (x3 : Int32) (s0 : Int32) (v_placeIn : List Int32) : fX9_bendsOf_33 N k_4 x1 x2 x3 s0 v_placeIn = mm_ck (mm_nz (2 : Int32)) (if (mm_rem x3 (2 : Int32)) = 0 then
    (fX9_bendsOf_49 N k_4 x1 x3 (1 : Int32) s0 x2 v_placeIn)
    else (fX9_bendsOf_49 N k_4 x1 x3 (0 : Int32) s0 x2 v_placeIn)) := rfl

theorem uf_X9_bendsOf_4 (N : Nat) (n : Nat) (x1 : Int32) (x2 : Int32) (x3 : Int32) (v_placeIn : List Int32) : fX9_bendsOf_4 N (n + 1) x1 x2 x3 v_placeIn = 
    if x1 ≤ (x3 + (1 : Int32)) then
    (some (x2))
    else (mm_ck (mm_inb x3 v_placeIn.length) (mm_ck (mm_inb (x3 + (1 : Int32)) v_placeIn.length) (if (mm_ig v_placeIn (x3 + (1 : Int32))) ≤ (mm_ig v_placeIn x3) then
    (fX9_bendsOf_33 N (fX9_bendsOf_4 N n) x1 x2 x3 (0 : Int32) v_placeIn)
    else (fX9_bendsOf_33 N (fX9_bendsOf_4 N n) x1 x2 x3 (1 : Int32) v_placeIn)))) := rfl

theorem uf_X9_bendsOf_49 (N : Nat) (k_4 : Int32 → Int32 → Int32 → List Int32 → Option (Int32)) (x1 : Int32) (x3 : Int32) (s0 : Int32) (s1 : Int32) (s2 : Int32) (v_placeIn : List Int32) : fX9_bendsOf_49 N k_4 x1 x3 s0 s1 s2 v_placeIn = if s1 = s0 then
    (fX9_bendsOf_59 N k_4 x1 x3 ((1 : Int32) <<< (x3 &&& 31)) s2 v_placeIn)
    else (fX9_bendsOf_59 N k_4 x1 x3 (0 : Int32) s2 v_placeIn) := rfl

theorem uf_X9_bendsOf_59 (N : Nat) (k_4 : Int32 → Int32 → Int32 → List Int32 → Option (Int32)) (x1 : Int32) (x3 : Int32) (s0 : Int32) (s1 : Int32) (v_placeIn : List Int32) : fX9_bendsOf_59 N k_4 x1 x3 s0 s1 v_placeIn = mm_nm ((s1 ||| s0)) (fun (y_8 : Int32) =>
    mm_nm (x3 + (1 : Int32)) (fun (y_9 : Int32) =>
    k_4 x1 y_8 y_9 v_placeIn)) := rfl

set_option maxHeartbeats 4000000 in
set_option maxRecDepth 20000 in
theorem sf_X9_bendsOf_4 {N : Nat} (hN : 700 ≤ N)  : ∀ (n : Nat) (x1 : Int32) (x2 : Int32) (x3 : Int32) (v_placeIn : List Int32), v_placeIn.length = 7 → 2 ≤ x1.toInt → x1.toInt ≤ 7 → 0 ≤ x3.toInt → x3.toInt ≤ 7 → (8 - x3.toInt).toNat < n → wp (fX9_bendsOf_4 N n x1 x2 x3 v_placeIn) (fun (r : Int32) => True) := by
  intro n
  induction n with
  | zero =>
    intro x1 x2 x3 v_placeIn h_0 h_1 h_2 h_3 h_4 hm
    exact absurd hm (by omega)
  | succ n ih =>
    intro x1 x2 x3 v_placeIn h_0 h_1 h_2 h_3 h_4 hm
    refine wp_of (uf_X9_bendsOf_4 _ _ _ _ _ _) ?_
    have n_2 : (1 : Int32).toInt = 1 := by decide
    generalize hz_z : (x3 + (1 : Int32)) = z
    have e_3 := i_addE hz_z (by omega) (by omega)
    refine wp_if (fun c_1 => ?_) (fun c_1 => ?_)
    ·
      have dc_1 := i_le c_1
      exact wp_so1 trivial
    ·
      have dc_1 := i_nle c_1
      refine wp_ck (i_inb (by omega) (by omega)) ?_
      refine wp_ck (i_inb (by omega) (by omega)) ?_
      refine wp_if (fun c_4 => ?_) (fun c_4 => ?_)
      ·
        have dc_4 := i_le c_4
        refine wp_of (uf_X9_bendsOf_33 _ _ _ _ _ _ _) ?_
        have n_5 : (2 : Int32).toInt = 2 := by decide
        refine wp_ck (i_nz (by omega)) ?_
        generalize hz_z__7 : (mm_rem x3 (2 : Int32)) = z__7
        have e_8 := i_remE (c := 2) (by decide) (by decide) hz_z__7 (by omega)
        have n_9 : (0 : Int32).toInt = 0 := by decide
        refine wp_if (fun c_6 => ?_) (fun c_6 => ?_)
        ·
          have dc_6 := i_eq c_6
          refine wp_of (uf_X9_bendsOf_49 _ _ _ _ _ _ _ _) ?_
          refine wp_ifn (by decide) ?_
          refine wp_of (uf_X9_bendsOf_59 _ _ _ _ _ _ _) ?_
          refine wp_nm (fun y_8 _ => ?_)
          refine wp_nm (fun y_9 h_y_9 => ?_)
          have e_10 := i_addE h_y_9.symm (by omega) (by omega)
          exact ih _ _ _ _ h_0 h_1 h_2 (by omega) (by omega) (by omega)
        ·
          have dc_6 := i_ne c_6
          refine wp_of (uf_X9_bendsOf_49 _ _ _ _ _ _ _ _) ?_
          refine wp_ifp (by decide) ?_
          refine wp_of (uf_X9_bendsOf_59 _ _ _ _ _ _ _) ?_
          refine wp_nm (fun y_8__11 _ => ?_)
          refine wp_nm (fun y_9__12 h_y_9__12 => ?_)
          have e_13 := i_addE h_y_9__12.symm (by omega) (by omega)
          exact ih _ _ _ _ h_0 h_1 h_2 (by omega) (by omega) (by omega)
      ·
        have dc_4 := i_nle c_4
        refine wp_of (uf_X9_bendsOf_33 _ _ _ _ _ _ _) ?_
        have n_14 : (2 : Int32).toInt = 2 := by decide
        refine wp_ck (i_nz (by omega)) ?_
        generalize hz_z__16 : (mm_rem x3 (2 : Int32)) = z__16
        have e_17 := i_remE (c := 2) (by decide) (by decide) hz_z__16 (by omega)
        have n_18 : (0 : Int32).toInt = 0 := by decide
        refine wp_if (fun c_15 => ?_) (fun c_15 => ?_)
        ·
          have dc_15 := i_eq c_15
          refine wp_of (uf_X9_bendsOf_49 _ _ _ _ _ _ _ _) ?_
          refine wp_ifp (by decide) ?_
          refine wp_of (uf_X9_bendsOf_59 _ _ _ _ _ _ _) ?_
          refine wp_nm (fun y_8__19 _ => ?_)
          refine wp_nm (fun y_9__20 h_y_9__20 => ?_)
          have e_21 := i_addE h_y_9__20.symm (by omega) (by omega)
          exact ih _ _ _ _ h_0 h_1 h_2 (by omega) (by omega) (by omega)
        ·
          have dc_15 := i_ne c_15
          refine wp_of (uf_X9_bendsOf_49 _ _ _ _ _ _ _ _) ?_
          refine wp_ifn (by decide) ?_
          refine wp_of (uf_X9_bendsOf_59 _ _ _ _ _ _ _) ?_
          refine wp_nm (fun y_8__22 _ => ?_)
          refine wp_nm (fun y_9__23 h_y_9__23 => ?_)
          have e_24 := i_addE h_y_9__23.symm (by omega) (by omega)
          exact ih _ _ _ _ h_0 h_1 h_2 (by omega) (by omega) (by omega)

theorem uf_X9_bendsOf (N : Nat) (x1 : Int32) (v_placeIn : List Int32) : fX9_bendsOf N x1 v_placeIn = fX9_bendsOf_4 N N x1 (0 : Int32) (0 : Int32) v_placeIn := rfl

set_option maxHeartbeats 4000000 in
set_option maxRecDepth 20000 in
theorem sf_X9_bendsOf {N : Nat} (hN : 700 ≤ N) {x1 : Int32} {v_placeIn : List Int32} (h_0 : v_placeIn.length = 7) (h_1 : 2 ≤ x1.toInt) (h_2 : x1.toInt ≤ 7) : wp (fX9_bendsOf N x1 v_placeIn) (fun (r : Int32) => True) := by
  refine wp_of (uf_X9_bendsOf _ _ _) ?_
  have n_1 : (0 : Int32).toInt = 0 := by decide
  exact sf_X9_bendsOf_4 hN _ _ _ _ _ h_0 h_1 h_2 (by omega) (by omega) (by omega)

theorem uf_X9_bends (N : Nat) (x1 : Int32) (x2 : Int32) (v_order1 : List Int32) (v_placeIn : List Int32) : fX9_bends N x1 x2 v_order1 v_placeIn = mm_bd1 (fX9_isStrip N x1) (fun (r_1 : Bool) =>
    if r_1 = false then
    (some ((-1 : Int32), v_order1, v_placeIn))
    else (mm_bd3 (fX9_isOrder N x1 x2 v_order1 v_placeIn) (fun (r_4 : Bool) (w_5 : List Int32) (w_6 : List Int32) =>
    if r_4 = false then
    (some ((-1 : Int32), w_5, w_6))
    else (mm_bd1 (fX9_firstCross N x1 w_6) (fun (r_9 : Int32) =>
    if r_9 < 0 then
    (mm_bd1 (fX9_bendsOf N x1 w_6) (fun (r_12 : Int32) =>
    some (r_12, w_5, w_6)))
    else (some ((-5 : Int32), w_5, w_6))))))) := rfl

set_option maxHeartbeats 4000000 in
set_option maxRecDepth 20000 in
theorem sf_X9_bends {N : Nat} (hN : 700 ≤ N) {x1 : Int32} {x2 : Int32} {v_order1 : List Int32} {v_placeIn : List Int32} (h_0 : v_order1.length = 7) (h_1 : v_placeIn.length = 7) : wp (fX9_bends N x1 x2 v_order1 v_placeIn) (cu3 (fun (r : Int32) (wv_order1 : List Int32) (wv_placeIn : List Int32) => wv_order1.length = 7 ∧ wv_placeIn.length = 7)) := by
  refine wp_of (uf_X9_bends _ _ _ _ _) ?_
  refine wp_in1 ?_
  refine wp_of (uf_X9_isStrip _ _) ?_
  have n_1 := i_64 x1
  have n_2 : (2 : Int64).toInt = 2 := by decide
  have n_3 : (7 : Int64).toInt = 7 := by decide
  refine wp_bd1 (sf_X9_within hN ) (fun r_1 q_4 => ?_)
  rcases q_4 with ⟨rfl, q_4⟩ | ⟨rfl, q_4⟩
  ·
    refine wp_so1 ?_
    show wp _ _
    refine wp_ifn (by decide) ?_
    refine wp_bd3 (sf_X9_isOrder hN h_0 h_1 (by omega) (by omega)) (fun r_4 w_5 w_6 ⟨q_5, q_6⟩ => ?_)
    refine wp_if (fun c_7 => ?_) (fun c_7 => ?_)
    ·
      exact wp_so3 ⟨q_5, q_6⟩
    ·
      refine wp_bd1 (sf_X9_firstCross hN q_6 (by omega) (by omega)) (fun r_9 _ => ?_)
      have n_9 : (0 : Int32).toInt = 0 := by decide
      refine wp_if (fun c_8 => ?_) (fun c_8 => ?_)
      ·
        have dc_8 := i_lt c_8
        refine wp_bd1 (sf_X9_bendsOf hN q_6 (by omega) (by omega)) (fun r_12 _ => ?_)
        exact wp_so3 ⟨q_5, q_6⟩
      ·
        have dc_8 := i_nlt c_8
        exact wp_so3 ⟨q_5, q_6⟩
  ·
    refine wp_so1 ?_
    show wp _ _
    refine wp_ifp (by decide) ?_
    exact wp_so3 ⟨h_0, h_1⟩

theorem uf_X9_looksAt (N : Nat) (x1 : Int32) (x2 : Int32) (v_soughtBy : Int32) (v_sought : Int32) (v_soughtAt : Int32) (v_foundMany : Int32) (v_foundOrder : Int32) (v_order1 : List Int32) (v_placeIn : List Int32) : fX9_looksAt N x1 x2 v_soughtBy v_sought v_soughtAt v_foundMany v_foundOrder v_order1 v_placeIn = mm_bd1 (fX9_firstCross N x1 v_placeIn) (fun (r_1 : Int32) =>
    if r_1 < 0 then
    (if v_soughtBy = 0 then
    (fX9_looksAt_59 N x2 v_soughtBy v_sought v_soughtAt v_foundMany v_foundOrder v_order1 v_placeIn)
    else (if v_soughtBy = (1 : Int32) then
    (mm_bd1 (fX9_bendsOf N x1 v_placeIn) (fun (r_6 : Int32) =>
    if r_6 = v_sought then
    (fX9_looksAt_59 N x2 v_soughtBy v_sought v_soughtAt v_foundMany v_foundOrder v_order1 v_placeIn)
    else (fX9_looksAt_36 N x1 x2 v_soughtBy v_sought v_soughtAt v_foundMany v_foundOrder v_order1 v_placeIn)))
    else (fX9_looksAt_36 N x1 x2 v_soughtBy v_sought v_soughtAt v_foundMany v_foundOrder v_order1 v_placeIn)))
    else (some (v_foundMany, v_foundOrder))) := rfl

theorem uf_X9_looksAt_36 (N : Nat) (x1 : Int32) (x2 : Int32) (v_soughtBy : Int32) (v_sought : Int32) (v_soughtAt : Int32) (v_foundMany : Int32) (v_foundOrder : Int32) (v_order1 : List Int32) (v_placeIn : List Int32) : fX9_looksAt_36 N x1 x2 v_soughtBy v_sought v_soughtAt v_foundMany v_foundOrder v_order1 v_placeIn = if v_soughtBy = (2 : Int32) then
    (mm_ck (mm_inb (x1 - (1 : Int32)) v_order1.length) (if (mm_ig v_order1 (x1 - (1 : Int32))) = v_sought then
    (fX9_looksAt_59 N x2 v_soughtBy v_sought v_soughtAt v_foundMany v_foundOrder v_order1 v_placeIn)
    else (fX9_looksAt_63 N x2 v_soughtBy v_sought v_soughtAt v_foundMany v_foundOrder v_order1 v_placeIn)))
    else (fX9_looksAt_63 N x2 v_soughtBy v_sought v_soughtAt v_foundMany v_foundOrder v_order1 v_placeIn) := rfl

theorem uf_X9_looksAt_59 (N : Nat) (x2 : Int32) (v_soughtBy : Int32) (v_sought : Int32) (v_soughtAt : Int32) (v_foundMany : Int32) (v_foundOrder : Int32) (v_order1 : List Int32) (v_placeIn : List Int32) : fX9_looksAt_59 N x2 v_soughtBy v_sought v_soughtAt v_foundMany v_foundOrder v_order1 v_placeIn = fX9_looksAt_64 N x2 (1 : Int32) v_soughtBy v_sought v_soughtAt v_foundMany v_foundOrder v_order1 v_placeIn := rfl

theorem uf_X9_looksAt_63 (N : Nat) (x2 : Int32) (v_soughtBy : Int32) (v_sought : Int32) (v_soughtAt : Int32) (v_foundMany : Int32) (v_foundOrder : Int32) (v_order1 : List Int32) (v_placeIn : List Int32) : fX9_looksAt_63 N x2 v_soughtBy v_sought v_soughtAt v_foundMany v_foundOrder v_order1 v_placeIn = fX9_looksAt_64 N x2 (0 : Int32) v_soughtBy v_sought v_soughtAt v_foundMany v_foundOrder v_order1 v_placeIn := rfl

theorem uf_X9_looksAt_64 (N : Nat) (x2 : Int32) (s0 : Int32) (v_soughtBy : Int32) (v_sought : Int32) (v_soughtAt : Int32) (v_foundMany : Int32) (v_foundOrder : Int32) (v_order1 : List Int32) (v_placeIn : List Int32) : fX9_looksAt_64 N x2 s0 v_soughtBy v_sought v_soughtAt v_foundMany v_foundOrder v_order1 v_placeIn = if s0 = 0 then
    (some (v_foundMany, v_foundOrder))
    else (if v_foundMany = v_soughtAt then
    (fX9_looksAt_90 N x2 v_soughtBy v_sought v_soughtAt v_foundMany v_foundOrder v_order1 v_placeIn)
    else (fX9_looksAt_90 N v_foundOrder v_soughtBy v_sought v_soughtAt v_foundMany v_foundOrder v_order1 v_placeIn)) := rfl

theorem uf_X9_looksAt_90 (N : Nat) (s0 : Int32) (v_soughtBy : Int32) (v_sought : Int32) (v_soughtAt : Int32) (v_foundMany : Int32) (v_foundOrder : Int32) (v_order1 : List Int32) (v_placeIn : List Int32) : fX9_looksAt_90 N s0 v_soughtBy v_sought v_soughtAt v_foundMany v_foundOrder v_order1 v_placeIn = mm_nm ((v_foundMany + (1 : Int32))) (fun (y_14 : Int32) =>
    some (y_14, s0)) := rfl

set_option maxHeartbeats 4000000 in
set_option maxRecDepth 20000 in
theorem sf_X9_looksAt {N : Nat} (hN : 700 ≤ N) {x1 : Int32} {x2 : Int32} {v_soughtBy : Int32} {v_sought : Int32} {v_soughtAt : Int32} {v_foundMany : Int32} {v_foundOrder : Int32} {v_order1 : List Int32} {v_placeIn : List Int32} (h_0 : v_order1.length = 7) (h_1 : v_placeIn.length = 7) (h_2 : 2 ≤ x1.toInt) (h_3 : x1.toInt ≤ 7) : wp (fX9_looksAt N x1 x2 v_soughtBy v_sought v_soughtAt v_foundMany v_foundOrder v_order1 v_placeIn) (cu2 (fun (wv_foundMany : Int32) (wv_foundOrder : Int32) => True)) := by
  refine wp_of (uf_X9_looksAt _ _ _ _ _ _ _ _ _ _) ?_
  refine wp_bd1 (sf_X9_firstCross hN h_1 h_2 h_3) (fun r_1 _ => ?_)
  have n_2 : (0 : Int32).toInt = 0 := by decide
  refine wp_if (fun c_1 => ?_) (fun c_1 => ?_)
  ·
    have dc_1 := i_lt c_1
    refine wp_if (fun c_3 => ?_) (fun c_3 => ?_)
    ·
      have dc_3 := i_eq c_3
      refine wp_of (uf_X9_looksAt_59 _ _ _ _ _ _ _ _ _) ?_
      refine wp_of (uf_X9_looksAt_64 _ _ _ _ _ _ _ _ _ _) ?_
      refine wp_ifn (by decide) ?_
      refine wp_if (fun c_4 => ?_) (fun c_4 => ?_)
      ·
        have dc_4 := i_eq c_4
        refine wp_of (uf_X9_looksAt_90 _ _ _ _ _ _ _ _ _) ?_
        have n_5 : (1 : Int32).toInt = 1 := by decide
        refine wp_nm (fun y_14 h_y_14 => ?_)
        first | have e_6 := i_addE h_y_14.symm (by omega) (by omega) | obtain ⟨k_6, e_6, e1_6, e2_6⟩ := i_addY h_y_14.symm
        exact wp_so2 trivial
      ·
        have dc_4 := i_ne c_4
        refine wp_of (uf_X9_looksAt_90 _ _ _ _ _ _ _ _ _) ?_
        have n_8 : (1 : Int32).toInt = 1 := by decide
        refine wp_nm (fun y_14__7 h_y_14__7 => ?_)
        first | have e_9 := i_addE h_y_14__7.symm (by omega) (by omega) | obtain ⟨k_9, e_9, e1_9, e2_9⟩ := i_addY h_y_14__7.symm
        exact wp_so2 trivial
    ·
      have dc_3 := i_ne c_3
      have n_11 : (1 : Int32).toInt = 1 := by decide
      refine wp_if (fun c_10 => ?_) (fun c_10 => ?_)
      ·
        have dc_10 := i_eq c_10
        refine wp_bd1 (sf_X9_bendsOf hN h_1 h_2 h_3) (fun r_6 _ => ?_)
        refine wp_if (fun c_12 => ?_) (fun c_12 => ?_)
        ·
          have dc_12 := i_eq c_12
          refine wp_of (uf_X9_looksAt_59 _ _ _ _ _ _ _ _ _) ?_
          refine wp_of (uf_X9_looksAt_64 _ _ _ _ _ _ _ _ _ _) ?_
          refine wp_ifn (by decide) ?_
          refine wp_if (fun c_13 => ?_) (fun c_13 => ?_)
          ·
            have dc_13 := i_eq c_13
            refine wp_of (uf_X9_looksAt_90 _ _ _ _ _ _ _ _ _) ?_
            refine wp_nm (fun y_14__14 h_y_14__14 => ?_)
            first | have e_15 := i_addE h_y_14__14.symm (by omega) (by omega) | obtain ⟨k_15, e_15, e1_15, e2_15⟩ := i_addY h_y_14__14.symm
            exact wp_so2 trivial
          ·
            have dc_13 := i_ne c_13
            refine wp_of (uf_X9_looksAt_90 _ _ _ _ _ _ _ _ _) ?_
            refine wp_nm (fun y_14__16 h_y_14__16 => ?_)
            first | have e_17 := i_addE h_y_14__16.symm (by omega) (by omega) | obtain ⟨k_17, e_17, e1_17, e2_17⟩ := i_addY h_y_14__16.symm
            exact wp_so2 trivial
        ·
          have dc_12 := i_ne c_12
          refine wp_of (uf_X9_looksAt_36 _ _ _ _ _ _ _ _ _ _) ?_
          have n_19 : (2 : Int32).toInt = 2 := by decide
          refine wp_if (fun c_18 => ?_) (fun c_18 => ?_)
          ·
            have dc_18 := i_eq c_18
            generalize hz_z : (x1 - (1 : Int32)) = z
            have e_20 := i_subE hz_z (by omega) (by omega)
            refine wp_ck (i_inb (by omega) (by omega)) ?_
            refine wp_if (fun c_21 => ?_) (fun c_21 => ?_)
            ·
              have dc_21 := i_eq c_21
              refine wp_of (uf_X9_looksAt_59 _ _ _ _ _ _ _ _ _) ?_
              refine wp_of (uf_X9_looksAt_64 _ _ _ _ _ _ _ _ _ _) ?_
              refine wp_ifn (by decide) ?_
              refine wp_if (fun c_22 => ?_) (fun c_22 => ?_)
              ·
                have dc_22 := i_eq c_22
                refine wp_of (uf_X9_looksAt_90 _ _ _ _ _ _ _ _ _) ?_
                refine wp_nm (fun y_14__23 h_y_14__23 => ?_)
                first | have e_24 := i_addE h_y_14__23.symm (by omega) (by omega) | obtain ⟨k_24, e_24, e1_24, e2_24⟩ := i_addY h_y_14__23.symm
                exact wp_so2 trivial
              ·
                have dc_22 := i_ne c_22
                refine wp_of (uf_X9_looksAt_90 _ _ _ _ _ _ _ _ _) ?_
                refine wp_nm (fun y_14__25 h_y_14__25 => ?_)
                first | have e_26 := i_addE h_y_14__25.symm (by omega) (by omega) | obtain ⟨k_26, e_26, e1_26, e2_26⟩ := i_addY h_y_14__25.symm
                exact wp_so2 trivial
            ·
              have dc_21 := i_ne c_21
              refine wp_of (uf_X9_looksAt_63 _ _ _ _ _ _ _ _ _) ?_
              refine wp_of (uf_X9_looksAt_64 _ _ _ _ _ _ _ _ _ _) ?_
              refine wp_ifp (by decide) ?_
              exact wp_so2 trivial
          ·
            have dc_18 := i_ne c_18
            refine wp_of (uf_X9_looksAt_63 _ _ _ _ _ _ _ _ _) ?_
            refine wp_of (uf_X9_looksAt_64 _ _ _ _ _ _ _ _ _ _) ?_
            refine wp_ifp (by decide) ?_
            exact wp_so2 trivial
      ·
        have dc_10 := i_ne c_10
        refine wp_of (uf_X9_looksAt_36 _ _ _ _ _ _ _ _ _ _) ?_
        have n_28 : (2 : Int32).toInt = 2 := by decide
        refine wp_if (fun c_27 => ?_) (fun c_27 => ?_)
        ·
          have dc_27 := i_eq c_27
          generalize hz_z__29 : (x1 - (1 : Int32)) = z__29
          have e_30 := i_subE hz_z__29 (by omega) (by omega)
          refine wp_ck (i_inb (by omega) (by omega)) ?_
          refine wp_if (fun c_31 => ?_) (fun c_31 => ?_)
          ·
            have dc_31 := i_eq c_31
            refine wp_of (uf_X9_looksAt_59 _ _ _ _ _ _ _ _ _) ?_
            refine wp_of (uf_X9_looksAt_64 _ _ _ _ _ _ _ _ _ _) ?_
            refine wp_ifn (by decide) ?_
            refine wp_if (fun c_32 => ?_) (fun c_32 => ?_)
            ·
              have dc_32 := i_eq c_32
              refine wp_of (uf_X9_looksAt_90 _ _ _ _ _ _ _ _ _) ?_
              refine wp_nm (fun y_14__33 h_y_14__33 => ?_)
              first | have e_34 := i_addE h_y_14__33.symm (by omega) (by omega) | obtain ⟨k_34, e_34, e1_34, e2_34⟩ := i_addY h_y_14__33.symm
              exact wp_so2 trivial
            ·
              have dc_32 := i_ne c_32
              refine wp_of (uf_X9_looksAt_90 _ _ _ _ _ _ _ _ _) ?_
              refine wp_nm (fun y_14__35 h_y_14__35 => ?_)
              first | have e_36 := i_addE h_y_14__35.symm (by omega) (by omega) | obtain ⟨k_36, e_36, e1_36, e2_36⟩ := i_addY h_y_14__35.symm
              exact wp_so2 trivial
          ·
            have dc_31 := i_ne c_31
            refine wp_of (uf_X9_looksAt_63 _ _ _ _ _ _ _ _ _) ?_
            refine wp_of (uf_X9_looksAt_64 _ _ _ _ _ _ _ _ _ _) ?_
            refine wp_ifp (by decide) ?_
            exact wp_so2 trivial
        ·
          have dc_27 := i_ne c_27
          refine wp_of (uf_X9_looksAt_63 _ _ _ _ _ _ _ _ _) ?_
          refine wp_of (uf_X9_looksAt_64 _ _ _ _ _ _ _ _ _ _) ?_
          refine wp_ifp (by decide) ?_
          exact wp_so2 trivial
  ·
    have dc_1 := i_nlt c_1
    exact wp_so2 trivial

theorem uf_X9_goesOrders_16 (N : Nat) (go : Int32 → Int32 → Int32 → Int32 → Int32 → Int32 → Int32 → Int32 → Int32 → List Int32 → List Int32 → Option (Int32 × Int32 × List Int32 × List Int32)) (n : Nat) (x1 : Int32) (x2 : Int32) (x3 : Int32) (x4 : Int32) (x5 : Int32) (v_soughtBy : Int32) (v_sought : Int32) (v_soughtAt : Int32) (v_foundMany : Int32) (v_foundOrder : Int32) (v_order1 : List Int32) (v_placeIn : List Int32) : fX9_goesOrders_16 N go (n + 1) x1 x2 x3 x4 x5 v_soughtBy v_sought v_soughtAt v_foundMany v_foundOrder v_order1 v_placeIn = 
    if x1 ≤ x5 then
    (some (v_foundMany, v_foundOrder, v_order1, v_placeIn))
    else (if ((x3 >>> (x5 &&& 31)) &&& (1 : Int32)) = 0 then
    (mm_ck (mm_inb x2 v_order1.length) (mm_nm (mm_is v_order1 x2 x5) (fun (l_8 : List Int32) =>
    mm_ck (mm_inb x5 v_placeIn.length) (mm_nm (mm_is v_placeIn x5 x2) (fun (l_10 : List Int32) =>
    mm_bd4 (go x1 (x2 + (1 : Int32)) (x3 ||| ((1 : Int32) <<< (x5 &&& 31))) ((((10 : Int32) * x4) + x5) + (1 : Int32)) v_soughtBy v_sought v_soughtAt v_foundMany v_foundOrder l_8 l_10) (fun (w_11 : Int32) (w_12 : Int32) (w_13 : List Int32) (w_14 : List Int32) =>
    fX9_goesOrders_71 N go (fX9_goesOrders_16 N go n) x1 x2 x3 x4 x5 v_soughtBy v_sought v_soughtAt w_11 w_12 w_13 w_14))))))
    else (fX9_goesOrders_71 N go (fX9_goesOrders_16 N go n) x1 x2 x3 x4 x5 v_soughtBy v_sought v_soughtAt v_foundMany v_foundOrder v_order1 v_placeIn)) := rfl

theorem uf_X9_goesOrders_71 (N : Nat) (go : Int32 → Int32 → Int32 → Int32 → Int32 → Int32 → Int32 → Int32 → Int32 → List Int32 → List Int32 → Option (Int32 × Int32 × List Int32 × List Int32)) (k_16 : Int32 → Int32 → Int32 → Int32 → Int32 → Int32 → Int32 → Int32 → Int32 → Int32 → List Int32 → List Int32 → Option (Int32 × Int32 × List Int32 × List Int32)) (x1 : Int32) (x2 : Int32) (x3 : Int32) (x4 : Int32) (x5 : Int32) (v_soughtBy : Int32) (v_sought : Int32) (v_soughtAt : Int32) (v_foundMany : Int32) (v_foundOrder : Int32) (v_order1 : List Int32) (v_placeIn : List Int32) : fX9_goesOrders_71 N go k_16 x1 x2 x3 x4 x5 v_soughtBy v_sought v_soughtAt v_foundMany v_foundOrder v_order1 v_placeIn = mm_nm (x5 + (1 : Int32)) (fun (y_16 : Int32) =>
    k_16 x1 x2 x3 x4 y_16 v_soughtBy v_sought v_soughtAt v_foundMany v_foundOrder v_order1 v_placeIn) := rfl

set_option maxHeartbeats 4000000 in
set_option maxRecDepth 20000 in
theorem sf_X9_goesOrders_16 {N : Nat} (hN : 700 ≤ N) {K : Int} {go : Int32 → Int32 → Int32 → Int32 → Int32 → Int32 → Int32 → Int32 → Int32 → List Int32 → List Int32 → Option (Int32 × Int32 × List Int32 × List Int32)} (hgo : ∀ (x1 : Int32) (x2 : Int32) (x3 : Int32) (x4 : Int32) (v_soughtBy : Int32) (v_sought : Int32) (v_soughtAt : Int32) (v_foundMany : Int32) (v_foundOrder : Int32) (v_order1 : List Int32) (v_placeIn : List Int32), v_order1.length = 7 → v_placeIn.length = 7 → 2 ≤ x1.toInt → x1.toInt ≤ 7 → 0 ≤ x2.toInt → x2.toInt ≤ x1.toInt → K ≤ x2.toInt → wp (go x1 x2 x3 x4 v_soughtBy v_sought v_soughtAt v_foundMany v_foundOrder v_order1 v_placeIn) (cu4 (fun (wv_foundMany : Int32) (wv_foundOrder : Int32) (wv_order1 : List Int32) (wv_placeIn : List Int32) => wv_order1.length = 7 ∧ wv_placeIn.length = 7))) : ∀ (n : Nat) (x1 : Int32) (x2 : Int32) (x3 : Int32) (x4 : Int32) (x5 : Int32) (v_soughtBy : Int32) (v_sought : Int32) (v_soughtAt : Int32) (v_foundMany : Int32) (v_foundOrder : Int32) (v_order1 : List Int32) (v_placeIn : List Int32), v_order1.length = 7 → v_placeIn.length = 7 → 2 ≤ x1.toInt → x1.toInt ≤ 7 → 0 ≤ x2.toInt → x2.toInt < x1.toInt → K ≤ x2.toInt + 1 → 0 ≤ x5.toInt → x5.toInt ≤ 7 → (8 - x5.toInt).toNat < n → wp (fX9_goesOrders_16 N go n x1 x2 x3 x4 x5 v_soughtBy v_sought v_soughtAt v_foundMany v_foundOrder v_order1 v_placeIn) (cu4 (fun (wv_foundMany : Int32) (wv_foundOrder : Int32) (wv_order1 : List Int32) (wv_placeIn : List Int32) => wv_order1.length = 7 ∧ wv_placeIn.length = 7)) := by
  intro n
  induction n with
  | zero =>
    intro x1 x2 x3 x4 x5 v_soughtBy v_sought v_soughtAt v_foundMany v_foundOrder v_order1 v_placeIn h_0 h_1 h_2 h_3 h_4 h_5 h_6 h_7 h_8 hm
    exact absurd hm (by omega)
  | succ n ih =>
    intro x1 x2 x3 x4 x5 v_soughtBy v_sought v_soughtAt v_foundMany v_foundOrder v_order1 v_placeIn h_0 h_1 h_2 h_3 h_4 h_5 h_6 h_7 h_8 hm
    refine wp_of (uf_X9_goesOrders_16 _ _ _ _ _ _ _ _ _ _ _ _ _ _ _) ?_
    refine wp_if (fun c_1 => ?_) (fun c_1 => ?_)
    ·
      have dc_1 := i_le c_1
      exact wp_so4 ⟨h_0, h_1⟩
    ·
      have dc_1 := i_nle c_1
      have n_3 : (0 : Int32).toInt = 0 := by decide
      refine wp_if (fun c_2 => ?_) (fun c_2 => ?_)
      ·
        have dc_2 := i_eq c_2
        refine wp_ck (i_inb (by omega) (by omega)) ?_
        refine wp_nm (fun l_8 h_l_8 => ?_)
        have nl_l_8 : l_8.length = 7 := by rw [h_l_8, is_len]; assumption
        refine wp_ck (i_inb (by omega) (by omega)) ?_
        refine wp_nm (fun l_10 h_l_10 => ?_)
        have nl_l_10 : l_10.length = 7 := by rw [h_l_10, is_len]; assumption
        have n_4 : (1 : Int32).toInt = 1 := by decide
        generalize hz_z : (x2 + (1 : Int32)) = z
        have e_5 := i_addE hz_z (by omega) (by omega)
        refine wp_bd4 (hgo _ _ _ _ _ _ _ _ _ _ _ nl_l_8 nl_l_10 h_2 h_3 (by omega) (by omega) (by omega)) (fun w_11 w_12 w_13 w_14 ⟨q_6, q_7⟩ => ?_)
        refine wp_of (uf_X9_goesOrders_71 _ _ _ _ _ _ _ _ _ _ _ _ _ _ _) ?_
        refine wp_nm (fun y_16 h_y_16 => ?_)
        have e_8 := i_addE h_y_16.symm (by omega) (by omega)
        exact ih _ _ _ _ _ _ _ _ _ _ _ _ q_6 q_7 h_2 h_3 h_4 h_5 h_6 (by omega) (by omega) (by omega)
      ·
        have dc_2 := i_ne c_2
        refine wp_of (uf_X9_goesOrders_71 _ _ _ _ _ _ _ _ _ _ _ _ _ _ _) ?_
        have n_10 : (1 : Int32).toInt = 1 := by decide
        refine wp_nm (fun y_16__9 h_y_16__9 => ?_)
        have e_11 := i_addE h_y_16__9.symm (by omega) (by omega)
        exact ih _ _ _ _ _ _ _ _ _ _ _ _ h_0 h_1 h_2 h_3 h_4 h_5 h_6 (by omega) (by omega) (by omega)

theorem uf_X9_goesOrders (N : Nat) (M : Nat) (z0 : Int32) (z1 : Int32) (z2 : Int32) (z3 : Int32) (z4 : Int32) (z5 : Int32) (z6 : Int32) (z7 : Int32) (z8 : Int32) (z9 : List Int32) (z10 : List Int32) : fX9_goesOrders N (M + 1) z0 z1 z2 z3 z4 z5 z6 z7 z8 z9 z10 = (fX9_goesOrderso N (fX9_goesOrders N M)) z0 z1 z2 z3 z4 z5 z6 z7 z8 z9 z10 := rfl

theorem uf_X9_goesOrderso (N : Nat) (go : Int32 → Int32 → Int32 → Int32 → Int32 → Int32 → Int32 → Int32 → Int32 → List Int32 → List Int32 → Option (Int32 × Int32 × List Int32 × List Int32)) (x1 : Int32) (x2 : Int32) (x3 : Int32) (x4 : Int32) (v_soughtBy : Int32) (v_sought : Int32) (v_soughtAt : Int32) (v_foundMany : Int32) (v_foundOrder : Int32) (v_order1 : List Int32) (v_placeIn : List Int32) : fX9_goesOrderso N go x1 x2 x3 x4 v_soughtBy v_sought v_soughtAt v_foundMany v_foundOrder v_order1 v_placeIn = if x2 = x1 then
    (mm_bd2 (fX9_looksAt N x1 x4 v_soughtBy v_sought v_soughtAt v_foundMany v_foundOrder v_order1 v_placeIn) (fun (w_2 : Int32) (w_3 : Int32) =>
    some (w_2, w_3, v_order1, v_placeIn)))
    else (fX9_goesOrders_16 N go N x1 x2 x3 x4 (0 : Int32) v_soughtBy v_sought v_soughtAt v_foundMany v_foundOrder v_order1 v_placeIn) := rfl

set_option maxHeartbeats 4000000 in
set_option maxRecDepth 20000 in
theorem sf_X9_goesOrderso {N : Nat} (hN : 700 ≤ N) {K : Int} {go : Int32 → Int32 → Int32 → Int32 → Int32 → Int32 → Int32 → Int32 → Int32 → List Int32 → List Int32 → Option (Int32 × Int32 × List Int32 × List Int32)} {x1 : Int32} {x2 : Int32} {x3 : Int32} {x4 : Int32} {v_soughtBy : Int32} {v_sought : Int32} {v_soughtAt : Int32} {v_foundMany : Int32} {v_foundOrder : Int32} {v_order1 : List Int32} {v_placeIn : List Int32} (h_0 : v_order1.length = 7) (h_1 : v_placeIn.length = 7) (h_2 : 2 ≤ x1.toInt) (h_3 : x1.toInt ≤ 7) (h_4 : 0 ≤ x2.toInt) (h_5 : x2.toInt ≤ x1.toInt) (hK : K ≤ x2.toInt + 1) (hgo : ∀ (x1 : Int32) (x2 : Int32) (x3 : Int32) (x4 : Int32) (v_soughtBy : Int32) (v_sought : Int32) (v_soughtAt : Int32) (v_foundMany : Int32) (v_foundOrder : Int32) (v_order1 : List Int32) (v_placeIn : List Int32), v_order1.length = 7 → v_placeIn.length = 7 → 2 ≤ x1.toInt → x1.toInt ≤ 7 → 0 ≤ x2.toInt → x2.toInt ≤ x1.toInt → K ≤ x2.toInt → wp (go x1 x2 x3 x4 v_soughtBy v_sought v_soughtAt v_foundMany v_foundOrder v_order1 v_placeIn) (cu4 (fun (wv_foundMany : Int32) (wv_foundOrder : Int32) (wv_order1 : List Int32) (wv_placeIn : List Int32) => wv_order1.length = 7 ∧ wv_placeIn.length = 7))) : wp (fX9_goesOrderso N go x1 x2 x3 x4 v_soughtBy v_sought v_soughtAt v_foundMany v_foundOrder v_order1 v_placeIn) (cu4 (fun (wv_foundMany : Int32) (wv_foundOrder : Int32) (wv_order1 : List Int32) (wv_placeIn : List Int32) => wv_order1.length = 7 ∧ wv_placeIn.length = 7)) := by
  refine wp_of (uf_X9_goesOrderso _ _ _ _ _ _ _ _ _ _ _ _ _) ?_
  refine wp_if (fun c_1 => ?_) (fun c_1 => ?_)
  ·
    have dc_1 := i_eq c_1
    refine wp_bd2 (sf_X9_looksAt hN h_0 h_1 h_2 h_3) (fun w_2 w_3 _ => ?_)
    exact wp_so4 ⟨h_0, h_1⟩
  ·
    have dc_1 := i_ne c_1
    have n_2 : (0 : Int32).toInt = 0 := by decide
    exact sf_X9_goesOrders_16 hN hgo _ _ _ _ _ _ _ _ _ _ _ _ _ h_0 h_1 h_2 h_3 h_4 (by omega) (by omega) (by omega) (by omega) (by omega)
set_option maxHeartbeats 4000000 in
set_option maxRecDepth 20000 in
theorem sf_X9_goesOrders {N : Nat} (hN : 700 ≤ N) : ∀ (M : Nat) (x1 : Int32) (x2 : Int32) (x3 : Int32) (x4 : Int32) (v_soughtBy : Int32) (v_sought : Int32) (v_soughtAt : Int32) (v_foundMany : Int32) (v_foundOrder : Int32) (v_order1 : List Int32) (v_placeIn : List Int32), v_order1.length = 7 → v_placeIn.length = 7 → 2 ≤ x1.toInt → x1.toInt ≤ 7 → 0 ≤ x2.toInt → x2.toInt ≤ x1.toInt → 8 - (M : Int) ≤ x2.toInt → wp (fX9_goesOrders N M x1 x2 x3 x4 v_soughtBy v_sought v_soughtAt v_foundMany v_foundOrder v_order1 v_placeIn) (cu4 (fun (wv_foundMany : Int32) (wv_foundOrder : Int32) (wv_order1 : List Int32) (wv_placeIn : List Int32) => wv_order1.length = 7 ∧ wv_placeIn.length = 7)) := by
  intro M
  induction M with
  | zero =>
    intro x1 x2 x3 x4 v_soughtBy v_sought v_soughtAt v_foundMany v_foundOrder v_order1 v_placeIn h_0 h_1 h_2 h_3 h_4 h_5 hK
    exact absurd hK (by omega)
  | succ M ih =>
    intro x1 x2 x3 x4 v_soughtBy v_sought v_soughtAt v_foundMany v_foundOrder v_order1 v_placeIn h_0 h_1 h_2 h_3 h_4 h_5 hK
    rw [uf_X9_goesOrders]
    exact sf_X9_goesOrderso (K := 8 - (M : Int)) hN h_0 h_1 h_2 h_3 h_4 h_5 (by omega) ih
set_option maxHeartbeats 4000000 in
set_option maxRecDepth 20000 in
theorem sf_X9_goesOrders_go {N : Nat} (hN : 700 ≤ N) : ∀ (x1 : Int32) (x2 : Int32) (x3 : Int32) (x4 : Int32) (v_soughtBy : Int32) (v_sought : Int32) (v_soughtAt : Int32) (v_foundMany : Int32) (v_foundOrder : Int32) (v_order1 : List Int32) (v_placeIn : List Int32), v_order1.length = 7 → v_placeIn.length = 7 → 2 ≤ x1.toInt → x1.toInt ≤ 7 → 0 ≤ x2.toInt → x2.toInt ≤ x1.toInt → (0 : Int) ≤ x2.toInt → wp (fX9_goesOrders N 9 x1 x2 x3 x4 v_soughtBy v_sought v_soughtAt v_foundMany v_foundOrder v_order1 v_placeIn) (cu4 (fun (wv_foundMany : Int32) (wv_foundOrder : Int32) (wv_order1 : List Int32) (wv_placeIn : List Int32) => wv_order1.length = 7 ∧ wv_placeIn.length = 7)) := fun x1 x2 x3 x4 v_soughtBy v_sought v_soughtAt v_foundMany v_foundOrder v_order1 v_placeIn h_0 h_1 h_2 h_3 h_4 h_5 _ => sf_X9_goesOrders hN 9 x1 x2 x3 x4 v_soughtBy v_sought v_soughtAt v_foundMany v_foundOrder v_order1 v_placeIn h_0 h_1 h_2 h_3 h_4 h_5 (by omega)
set_option maxHeartbeats 4000000 in
set_option maxRecDepth 20000 in
theorem sf_X9_goesOrders_at {N : Nat} {M : Nat} (hN : 700 ≤ N) {x1 : Int32} {x2 : Int32} {x3 : Int32} {x4 : Int32} {v_soughtBy : Int32} {v_sought : Int32} {v_soughtAt : Int32} {v_foundMany : Int32} {v_foundOrder : Int32} {v_order1 : List Int32} {v_placeIn : List Int32} (h_0 : v_order1.length = 7) (h_1 : v_placeIn.length = 7) (h_2 : 2 ≤ x1.toInt) (h_3 : x1.toInt ≤ 7) (h_4 : 0 ≤ x2.toInt) (h_5 : x2.toInt ≤ x1.toInt) (hK : 8 - (M : Int) ≤ x2.toInt) : wp (fX9_goesOrders N M x1 x2 x3 x4 v_soughtBy v_sought v_soughtAt v_foundMany v_foundOrder v_order1 v_placeIn) (cu4 (fun (wv_foundMany : Int32) (wv_foundOrder : Int32) (wv_order1 : List Int32) (wv_placeIn : List Int32) => wv_order1.length = 7 ∧ wv_placeIn.length = 7)) := sf_X9_goesOrders hN M x1 x2 x3 x4 v_soughtBy v_sought v_soughtAt v_foundMany v_foundOrder v_order1 v_placeIn h_0 h_1 h_2 h_3 h_4 h_5 hK

theorem uf_X9_seeks (N : Nat) (x1 : Int32) (x2 : Int32) (x3 : Int32) (x4 : Int32) (v_soughtBy : Int32) (v_sought : Int32) (v_soughtAt : Int32) (v_foundMany : Int32) (v_foundOrder : Int32) (v_order1 : List Int32) (v_placeIn : List Int32) : fX9_seeks N x1 x2 x3 x4 v_soughtBy v_sought v_soughtAt v_foundMany v_foundOrder v_order1 v_placeIn = mm_bd4 (fX9_goesOrders N 9 x1 (0 : Int32) (0 : Int32) (0 : Int32) x2 x3 x4 (0 : Int32) (-1 : Int32) v_order1 v_placeIn) (fun (w_1 : Int32) (w_2 : Int32) (w_3 : List Int32) (w_4 : List Int32) =>
    some (x2, x3, x4, w_1, w_2, w_3, w_4)) := rfl

set_option maxHeartbeats 4000000 in
set_option maxRecDepth 20000 in
theorem sf_X9_seeks {N : Nat} (hN : 700 ≤ N) {x1 : Int32} {x2 : Int32} {x3 : Int32} {x4 : Int32} {v_soughtBy : Int32} {v_sought : Int32} {v_soughtAt : Int32} {v_foundMany : Int32} {v_foundOrder : Int32} {v_order1 : List Int32} {v_placeIn : List Int32} (h_0 : v_order1.length = 7) (h_1 : v_placeIn.length = 7) (h_2 : 2 ≤ x1.toInt) (h_3 : x1.toInt ≤ 7) : wp (fX9_seeks N x1 x2 x3 x4 v_soughtBy v_sought v_soughtAt v_foundMany v_foundOrder v_order1 v_placeIn) (cu7 (fun (wv_soughtBy : Int32) (wv_sought : Int32) (wv_soughtAt : Int32) (wv_foundMany : Int32) (wv_foundOrder : Int32) (wv_order1 : List Int32) (wv_placeIn : List Int32) => wv_order1.length = 7 ∧ wv_placeIn.length = 7)) := by
  refine wp_of (uf_X9_seeks _ _ _ _ _ _ _ _ _ _ _ _) ?_
  have n_1 : (0 : Int32).toInt = 0 := by decide
  refine wp_bd4 (sf_X9_goesOrders_at (M := 9) hN h_0 h_1 h_2 h_3 (by omega) (by omega) (by omega)) (fun w_1 w_2 w_3 w_4 ⟨q_2, q_3⟩ => ?_)
  exact wp_so7 ⟨q_2, q_3⟩

theorem uf_X9_orders (N : Nat) (x1 : Int32) (x2 : Int32) (v_soughtBy : Int32) (v_sought : Int32) (v_soughtAt : Int32) (v_foundMany : Int32) (v_foundOrder : Int32) (v_order1 : List Int32) (v_placeIn : List Int32) : fX9_orders N x1 x2 v_soughtBy v_sought v_soughtAt v_foundMany v_foundOrder v_order1 v_placeIn = mm_bd1 (fX9_isStrip N x1) (fun (r_1 : Bool) =>
    if r_1 = false then
    (some ((-1 : Int32), v_soughtBy, v_sought, v_soughtAt, v_foundMany, v_foundOrder, v_order1, v_placeIn))
    else (if (-1 : Int32) ≤ x2 then
    (mm_bd7 (fX9_seeks N x1 (0 : Int32) (0 : Int32) x2 v_soughtBy v_sought v_soughtAt v_foundMany v_foundOrder v_order1 v_placeIn) (fun (w_5 : Int32) (w_6 : Int32) (w_7 : Int32) (w_8 : Int32) (w_9 : Int32) (w_10 : List Int32) (w_11 : List Int32) =>
    if x2 = (-1 : Int32) then
    (some (w_8, w_5, w_6, w_7, w_8, w_9, w_10, w_11))
    else (some (w_9, w_5, w_6, w_7, w_8, w_9, w_10, w_11))))
    else (some ((-1 : Int32), v_soughtBy, v_sought, v_soughtAt, v_foundMany, v_foundOrder, v_order1, v_placeIn)))) := rfl

set_option maxHeartbeats 4000000 in
set_option maxRecDepth 20000 in
theorem sf_X9_orders {N : Nat} (hN : 700 ≤ N) {x1 : Int32} {x2 : Int32} {v_soughtBy : Int32} {v_sought : Int32} {v_soughtAt : Int32} {v_foundMany : Int32} {v_foundOrder : Int32} {v_order1 : List Int32} {v_placeIn : List Int32} (h_0 : v_order1.length = 7) (h_1 : v_placeIn.length = 7) : wp (fX9_orders N x1 x2 v_soughtBy v_sought v_soughtAt v_foundMany v_foundOrder v_order1 v_placeIn) (cu8 (fun (r : Int32) (wv_soughtBy : Int32) (wv_sought : Int32) (wv_soughtAt : Int32) (wv_foundMany : Int32) (wv_foundOrder : Int32) (wv_order1 : List Int32) (wv_placeIn : List Int32) => wv_order1.length = 7 ∧ wv_placeIn.length = 7)) := by
  refine wp_of (uf_X9_orders _ _ _ _ _ _ _ _ _ _) ?_
  refine wp_in1 ?_
  refine wp_of (uf_X9_isStrip _ _) ?_
  have n_1 := i_64 x1
  have n_2 : (2 : Int64).toInt = 2 := by decide
  have n_3 : (7 : Int64).toInt = 7 := by decide
  refine wp_bd1 (sf_X9_within hN ) (fun r_1 q_4 => ?_)
  rcases q_4 with ⟨rfl, q_4⟩ | ⟨rfl, q_4⟩
  ·
    refine wp_so1 ?_
    show wp _ _
    refine wp_ifn (by decide) ?_
    have n_6 : (-1 : Int32).toInt = -1 := by decide
    refine wp_if (fun c_5 => ?_) (fun c_5 => ?_)
    ·
      have dc_5 := i_le c_5
      refine wp_bd7 (sf_X9_seeks hN h_0 h_1 (by omega) (by omega)) (fun w_5 w_6 w_7 w_8 w_9 w_10 w_11 ⟨q_7, q_8⟩ => ?_)
      refine wp_if (fun c_9 => ?_) (fun c_9 => ?_)
      ·
        have dc_9 := i_eq c_9
        exact wp_so8 ⟨q_7, q_8⟩
      ·
        have dc_9 := i_ne c_9
        exact wp_so8 ⟨q_7, q_8⟩
    ·
      have dc_5 := i_nle c_5
      exact wp_so8 ⟨h_0, h_1⟩
  ·
    refine wp_so1 ?_
    show wp _ _
    refine wp_ifp (by decide) ?_
    exact wp_so8 ⟨h_0, h_1⟩

theorem uf_X9_by (N : Nat) (x1 : Int32) (x2 : Int32) (x3 : Int32) (v_soughtBy : Int32) (v_sought : Int32) (v_soughtAt : Int32) (v_foundMany : Int32) (v_foundOrder : Int32) (v_order1 : List Int32) (v_placeIn : List Int32) : fX9_by N x1 x2 x3 v_soughtBy v_sought v_soughtAt v_foundMany v_foundOrder v_order1 v_placeIn = mm_bd1 (fX9_isStrip N x1) (fun (r_1 : Bool) =>
    if r_1 = false then
    (some ((-1 : Int32), v_soughtBy, v_sought, v_soughtAt, v_foundMany, v_foundOrder, v_order1, v_placeIn))
    else (mm_bd1 (fX9_within N ((x2).toInt64) (0 : Int64) ((((1 : Int32) <<< ((x1 - (1 : Int32)) &&& 31)) - (1 : Int32)).toInt64)) (fun (r_4 : Bool) =>
    if r_4 = false then
    (some ((-1 : Int32), v_soughtBy, v_sought, v_soughtAt, v_foundMany, v_foundOrder, v_order1, v_placeIn))
    else (mm_bd1 (fX9_within N ((x3).toInt64) (0 : Int64) (1 : Int64)) (fun (r_7 : Bool) =>
    if r_7 = false then
    (some ((-1 : Int32), v_soughtBy, v_sought, v_soughtAt, v_foundMany, v_foundOrder, v_order1, v_placeIn))
    else (mm_bd7 (fX9_seeks N x1 (1 : Int32) x2 (0 : Int32) v_soughtBy v_sought v_soughtAt v_foundMany v_foundOrder v_order1 v_placeIn) (fun (w_10 : Int32) (w_11 : Int32) (w_12 : Int32) (w_13 : Int32) (w_14 : Int32) (w_15 : List Int32) (w_16 : List Int32) =>
    if x3 = 0 then
    (some (w_13, w_10, w_11, w_12, w_13, w_14, w_15, w_16))
    else (if w_13 = 0 then
    (some ((-2 : Int32), w_10, w_11, w_12, w_13, w_14, w_15, w_16))
    else (some (w_14, w_10, w_11, w_12, w_13, w_14, w_15, w_16)))))))))) := rfl

set_option maxHeartbeats 4000000 in
set_option maxRecDepth 20000 in
theorem sf_X9_by {N : Nat} (hN : 700 ≤ N) {x1 : Int32} {x2 : Int32} {x3 : Int32} {v_soughtBy : Int32} {v_sought : Int32} {v_soughtAt : Int32} {v_foundMany : Int32} {v_foundOrder : Int32} {v_order1 : List Int32} {v_placeIn : List Int32} (h_0 : v_order1.length = 7) (h_1 : v_placeIn.length = 7) : wp (fX9_by N x1 x2 x3 v_soughtBy v_sought v_soughtAt v_foundMany v_foundOrder v_order1 v_placeIn) (cu8 (fun (r : Int32) (wv_soughtBy : Int32) (wv_sought : Int32) (wv_soughtAt : Int32) (wv_foundMany : Int32) (wv_foundOrder : Int32) (wv_order1 : List Int32) (wv_placeIn : List Int32) => wv_order1.length = 7 ∧ wv_placeIn.length = 7)) := by
  refine wp_of (uf_X9_by _ _ _ _ _ _ _ _ _ _ _) ?_
  refine wp_in1 ?_
  refine wp_of (uf_X9_isStrip _ _) ?_
  have n_1 := i_64 x1
  have n_2 : (2 : Int64).toInt = 2 := by decide
  have n_3 : (7 : Int64).toInt = 7 := by decide
  refine wp_bd1 (sf_X9_within hN ) (fun r_1 q_4 => ?_)
  rcases q_4 with ⟨rfl, q_4⟩ | ⟨rfl, q_4⟩
  ·
    refine wp_so1 ?_
    show wp _ _
    refine wp_ifn (by decide) ?_
    have n_5 := i_64 x2
    have n_6 : (0 : Int64).toInt = 0 := by decide
    have n_7 : (1 : Int32).toInt = 1 := by decide
    generalize hz_z : (((1 : Int32) <<< ((x1 - (1 : Int32)) &&& 31)) - (1 : Int32)) = z
    first | have e_8 := i_subE hz_z (by omega) (by omega) | obtain ⟨k_8, e_8, e1_8, e2_8⟩ := i_subY hz_z
    have n_9 := i_64 z
    refine wp_bd1 (sf_X9_within hN ) (fun r_4 q_10 => ?_)
    rcases q_10 with ⟨rfl, q_10⟩ | ⟨rfl, q_10⟩
    ·
      refine wp_ifn (by decide) ?_
      have n_11 := i_64 x3
      have n_12 : (1 : Int64).toInt = 1 := by decide
      refine wp_bd1 (sf_X9_within hN ) (fun r_7 q_13 => ?_)
      rcases q_13 with ⟨rfl, q_13⟩ | ⟨rfl, q_13⟩
      ·
        refine wp_ifn (by decide) ?_
        refine wp_bd7 (sf_X9_seeks hN h_0 h_1 (by omega) (by omega)) (fun w_10 w_11 w_12 w_13 w_14 w_15 w_16 ⟨q_14, q_15⟩ => ?_)
        have n_17 : (0 : Int32).toInt = 0 := by decide
        refine wp_if (fun c_16 => ?_) (fun c_16 => ?_)
        ·
          have dc_16 := i_eq c_16
          exact wp_so8 ⟨q_14, q_15⟩
        ·
          have dc_16 := i_ne c_16
          refine wp_if (fun c_18 => ?_) (fun c_18 => ?_)
          ·
            have dc_18 := i_eq c_18
            exact wp_so8 ⟨q_14, q_15⟩
          ·
            have dc_18 := i_ne c_18
            exact wp_so8 ⟨q_14, q_15⟩
      ·
        refine wp_ifp (by decide) ?_
        exact wp_so8 ⟨h_0, h_1⟩
    ·
      refine wp_ifp (by decide) ?_
      exact wp_so8 ⟨h_0, h_1⟩
  ·
    refine wp_so1 ?_
    show wp _ _
    refine wp_ifp (by decide) ?_
    exact wp_so8 ⟨h_0, h_1⟩

theorem uf_X9_with (N : Nat) (x1 : Int32) (x2 : Int32) (v_soughtBy : Int32) (v_sought : Int32) (v_soughtAt : Int32) (v_foundMany : Int32) (v_foundOrder : Int32) (v_order1 : List Int32) (v_placeIn : List Int32) : fX9_with N x1 x2 v_soughtBy v_sought v_soughtAt v_foundMany v_foundOrder v_order1 v_placeIn = mm_bd1 (fX9_isStrip N x1) (fun (r_1 : Bool) =>
    if r_1 = false then
    (some ((-1 : Int32), v_soughtBy, v_sought, v_soughtAt, v_foundMany, v_foundOrder, v_order1, v_placeIn))
    else (mm_bd1 (fX9_within N ((x2).toInt64) (0 : Int64) ((x1 - (1 : Int32)).toInt64)) (fun (r_4 : Bool) =>
    if r_4 = false then
    (some ((-1 : Int32), v_soughtBy, v_sought, v_soughtAt, v_foundMany, v_foundOrder, v_order1, v_placeIn))
    else (mm_bd7 (fX9_seeks N x1 (2 : Int32) x2 (0 : Int32) v_soughtBy v_sought v_soughtAt v_foundMany v_foundOrder v_order1 v_placeIn) (fun (w_7 : Int32) (w_8 : Int32) (w_9 : Int32) (w_10 : Int32) (w_11 : Int32) (w_12 : List Int32) (w_13 : List Int32) =>
    some (w_10, w_7, w_8, w_9, w_10, w_11, w_12, w_13)))))) := rfl

set_option maxHeartbeats 4000000 in
set_option maxRecDepth 20000 in
theorem sf_X9_with {N : Nat} (hN : 700 ≤ N) {x1 : Int32} {x2 : Int32} {v_soughtBy : Int32} {v_sought : Int32} {v_soughtAt : Int32} {v_foundMany : Int32} {v_foundOrder : Int32} {v_order1 : List Int32} {v_placeIn : List Int32} (h_0 : v_order1.length = 7) (h_1 : v_placeIn.length = 7) : wp (fX9_with N x1 x2 v_soughtBy v_sought v_soughtAt v_foundMany v_foundOrder v_order1 v_placeIn) (cu8 (fun (r : Int32) (wv_soughtBy : Int32) (wv_sought : Int32) (wv_soughtAt : Int32) (wv_foundMany : Int32) (wv_foundOrder : Int32) (wv_order1 : List Int32) (wv_placeIn : List Int32) => wv_order1.length = 7 ∧ wv_placeIn.length = 7)) := by
  refine wp_of (uf_X9_with _ _ _ _ _ _ _ _ _ _) ?_
  refine wp_in1 ?_
  refine wp_of (uf_X9_isStrip _ _) ?_
  have n_1 := i_64 x1
  have n_2 : (2 : Int64).toInt = 2 := by decide
  have n_3 : (7 : Int64).toInt = 7 := by decide
  refine wp_bd1 (sf_X9_within hN ) (fun r_1 q_4 => ?_)
  rcases q_4 with ⟨rfl, q_4⟩ | ⟨rfl, q_4⟩
  ·
    refine wp_so1 ?_
    show wp _ _
    refine wp_ifn (by decide) ?_
    have n_5 := i_64 x2
    have n_6 : (0 : Int64).toInt = 0 := by decide
    have n_7 : (1 : Int32).toInt = 1 := by decide
    generalize hz_z : (x1 - (1 : Int32)) = z
    first | have e_8 := i_subE hz_z (by omega) (by omega) | obtain ⟨k_8, e_8, e1_8, e2_8⟩ := i_subY hz_z
    have n_9 := i_64 z
    refine wp_bd1 (sf_X9_within hN ) (fun r_4 q_10 => ?_)
    rcases q_10 with ⟨rfl, q_10⟩ | ⟨rfl, q_10⟩
    ·
      refine wp_ifn (by decide) ?_
      refine wp_bd7 (sf_X9_seeks hN h_0 h_1 (by omega) (by omega)) (fun w_7 w_8 w_9 w_10 w_11 w_12 w_13 ⟨q_11, q_12⟩ => ?_)
      exact wp_so8 ⟨q_11, q_12⟩
    ·
      refine wp_ifp (by decide) ?_
      exact wp_so8 ⟨h_0, h_1⟩
  ·
    refine wp_so1 ?_
    show wp _ _
    refine wp_ifp (by decide) ?_
    exact wp_so8 ⟨h_0, h_1⟩
