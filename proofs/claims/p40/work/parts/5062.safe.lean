/-! safe -/
theorem uf_X9_body (N : Nat) (x1 : Int32) (v_bodies : Int32) (v_bodyKind : List Int32) : fX9_body N x1 v_bodies v_bodyKind = mm_bd1 (fX9_within N ((x1).toInt64) (0 : Int64) (7 : Int64)) (fun (r_1 : Bool) =>
    if r_1 = false then
    (some ((-1 : Int32), v_bodies, v_bodyKind))
    else (if v_bodies = (50 : Int32) then
    (some ((-3 : Int32), v_bodies, v_bodyKind))
    else (mm_ck (mm_inb v_bodies v_bodyKind.length) (mm_nm (mm_is v_bodyKind v_bodies x1) (fun (l_6 : List Int32) =>
    mm_nm ((v_bodies + (1 : Int32))) (fun (y_7 : Int32) =>
    some ((y_7 - (1 : Int32)), y_7, l_6))))))) := rfl

set_option maxHeartbeats 4000000 in
set_option maxRecDepth 20000 in
theorem sf_X9_body {N : Nat} (hN : 700 ≤ N) {x1 : Int32} {v_bodies : Int32} {v_bodyKind : List Int32} (h_0 : 0 ≤ v_bodies.toInt) (h_1 : v_bodies.toInt ≤ 50) (h_2 : v_bodyKind.length = 50) : wp (fX9_body N x1 v_bodies v_bodyKind) (cu3 (fun (r : Int32) (wv_bodies : Int32) (wv_bodyKind : List Int32) => 0 ≤ wv_bodies.toInt ∧ wv_bodies.toInt ≤ 50 ∧ wv_bodyKind.length = 50)) := by
  refine wp_of (uf_X9_body _ _ _ _) ?_
  have n_1 := i_64 x1
  have n_2 : (0 : Int64).toInt = 0 := by decide
  have n_3 : (7 : Int64).toInt = 7 := by decide
  refine wp_bd1 (sf_X9_within hN ) (fun r_1 q_4 => ?_)
  rcases q_4 with ⟨rfl, q_4⟩ | ⟨rfl, q_4⟩
  ·
    refine wp_ifn (by decide) ?_
    have n_6 : (50 : Int32).toInt = 50 := by decide
    refine wp_if (fun c_5 => ?_) (fun c_5 => ?_)
    ·
      have dc_5 := i_eq c_5
      exact wp_so3 ⟨h_0, h_1, h_2⟩
    ·
      have dc_5 := i_ne c_5
      refine wp_ck (i_inb (by omega) (by omega)) ?_
      refine wp_nm (fun l_6 h_l_6 => ?_)
      have nl_l_6 : l_6.length = 50 := by rw [h_l_6, is_len]; assumption
      have n_7 : (1 : Int32).toInt = 1 := by decide
      refine wp_nm (fun y_7 h_y_7 => ?_)
      have e_8 := i_addE h_y_7.symm (by omega) (by omega)
      exact wp_so3 ⟨(by omega), (by omega), nl_l_6⟩
  ·
    refine wp_ifp (by decide) ?_
    exact wp_so3 ⟨h_0, h_1, h_2⟩

theorem uf_X9_trace (N : Nat) (x1 : Int32) (v_ran : Int32) (v_trace : List Int32) : fX9_trace N x1 v_ran v_trace = if x1 < 0 then
    (some ((-1 : Int32)))
    else (if v_ran ≤ x1 then
    (some ((-1 : Int32)))
    else (if (24 : Int32) ≤ x1 then
    (some ((-1 : Int32)))
    else (mm_ck (mm_inb x1 v_trace.length) (some ((mm_ig v_trace x1)))))) := rfl

set_option maxHeartbeats 4000000 in
set_option maxRecDepth 20000 in
theorem sf_X9_trace {N : Nat} (hN : 700 ≤ N) {x1 : Int32} {v_ran : Int32} {v_trace : List Int32} (h_0 : v_trace.length = 24) : wp (fX9_trace N x1 v_ran v_trace) (fun (r : Int32) => True) := by
  refine wp_of (uf_X9_trace _ _ _ _) ?_
  have n_2 : (0 : Int32).toInt = 0 := by decide
  refine wp_if (fun c_1 => ?_) (fun c_1 => ?_)
  ·
    have dc_1 := i_lt c_1
    exact wp_so1 trivial
  ·
    have dc_1 := i_nlt c_1
    refine wp_if (fun c_3 => ?_) (fun c_3 => ?_)
    ·
      have dc_3 := i_le c_3
      exact wp_so1 trivial
    ·
      have dc_3 := i_nle c_3
      have n_5 : (24 : Int32).toInt = 24 := by decide
      refine wp_if (fun c_4 => ?_) (fun c_4 => ?_)
      ·
        have dc_4 := i_le c_4
        exact wp_so1 trivial
      ·
        have dc_4 := i_nle c_4
        refine wp_ck (i_inb (by omega) (by omega)) ?_
        exact wp_so1 trivial

theorem uf_X9_isBody (N : Nat) (x1 : Int32) (v_bodies : Int32) : fX9_isBody N x1 v_bodies = mm_bd1 (fX9_within N ((x1).toInt64) (0 : Int64) ((v_bodies - (1 : Int32)).toInt64)) (fun (r_1 : Bool) =>
    some (r_1)) := rfl

set_option maxHeartbeats 4000000 in
set_option maxRecDepth 20000 in
theorem sf_X9_isBody {N : Nat} (hN : 700 ≤ N) {x1 : Int32} {v_bodies : Int32} (h_0 : 0 ≤ v_bodies.toInt) (h_1 : v_bodies.toInt ≤ 50) : wp (fX9_isBody N x1 v_bodies) (fun (r : Bool) => True) := by
  refine wp_of (uf_X9_isBody _ _ _) ?_
  have n_1 := i_64 x1
  have n_2 : (0 : Int64).toInt = 0 := by decide
  have n_3 : (1 : Int32).toInt = 1 := by decide
  generalize hz_z : (v_bodies - (1 : Int32)) = z
  have e_4 := i_subE hz_z (by omega) (by omega)
  have n_5 := i_64 z
  refine wp_bd1 (sf_X9_within hN ) (fun r_1 q_6 => ?_)
  rcases q_6 with ⟨rfl, q_6⟩ | ⟨rfl, q_6⟩
  ·
    exact wp_so1 trivial
  ·
    exact wp_so1 trivial

theorem uf_X9_kindOf (N : Nat) (x1 : Int32) (v_bodyKind : List Int32) : fX9_kindOf N x1 v_bodyKind = mm_ck (mm_inb x1 v_bodyKind.length) (some ((mm_ig v_bodyKind x1))) := rfl

set_option maxHeartbeats 4000000 in
set_option maxRecDepth 20000 in
theorem sf_X9_kindOf {N : Nat} (hN : 700 ≤ N) {x1 : Int32} {v_bodyKind : List Int32} (h_0 : v_bodyKind.length = 50) (h_1 : 0 ≤ x1.toInt) (h_2 : x1.toInt < 50) : wp (fX9_kindOf N x1 v_bodyKind) (fun (r : Int32) => True) := by
  refine wp_of (uf_X9_kindOf _ _ _) ?_
  refine wp_ck (i_inb (by omega) (by omega)) ?_
  exact wp_so1 trivial

theorem uf_X9_keep (N : Nat) (x1 : Int32) (x2 : Int32) (v_bodies : Int32) (v_shelf : List Int32) (v_many : List Int32) : fX9_keep N x1 x2 v_bodies v_shelf v_many = mm_bd1 (fX9_isShelf N x1) (fun (r_1 : Bool) =>
    if r_1 = false then
    (some ((-1 : Int32), v_shelf, v_many))
    else (if x2 = (-1 : Int32) then
    (fX9_keep_22 N x1 x2 v_bodies v_shelf v_many)
    else (mm_bd1 (fX9_isBody N x2 v_bodies) (fun (r_5 : Bool) =>
    if r_5 = false then
    (some ((-1 : Int32), v_shelf, v_many))
    else (fX9_keep_22 N x1 x2 v_bodies v_shelf v_many))))) := rfl

theorem uf_X9_keep_22 (N : Nat) (x1 : Int32) (x2 : Int32) (v_bodies : Int32) (v_shelf : List Int32) (v_many : List Int32) : fX9_keep_22 N x1 x2 v_bodies v_shelf v_many = mm_ck (mm_inb x1 v_shelf.length) (mm_nm (mm_is v_shelf x1 x2) (fun (l_9 : List Int32) =>
    mm_ck (mm_inb x1 v_many.length) (mm_nm (mm_is v_many x1 (0 : Int32)) (fun (l_11 : List Int32) =>
    some ((1 : Int32), l_9, l_11))))) := rfl

set_option maxHeartbeats 4000000 in
set_option maxRecDepth 20000 in
theorem sf_X9_keep {N : Nat} (hN : 700 ≤ N) {x1 : Int32} {x2 : Int32} {v_bodies : Int32} {v_shelf : List Int32} {v_many : List Int32} (h_0 : 0 ≤ v_bodies.toInt) (h_1 : v_bodies.toInt ≤ 50) (h_2 : v_shelf.length = 6) (h_3 : v_many.length = 6) (h_4 : zn v_many 0 6 0 61) : wp (fX9_keep N x1 x2 v_bodies v_shelf v_many) (cu3 (fun (r : Int32) (wv_shelf : List Int32) (wv_many : List Int32) => wv_shelf.length = 6 ∧ wv_many.length = 6 ∧ zn wv_many 0 6 0 61)) := by
  refine wp_of (uf_X9_keep _ _ _ _ _ _) ?_
  refine wp_bd1 (sf_X9_isShelf hN ) (fun r_1 q_1 => ?_)
  rcases q_1 with ⟨rfl, q_1⟩ | ⟨rfl, q_1⟩
  ·
    refine wp_ifn (by decide) ?_
    have n_3 : (-1 : Int32).toInt = -1 := by decide
    refine wp_if (fun c_2 => ?_) (fun c_2 => ?_)
    ·
      have dc_2 := i_eq c_2
      refine wp_of (uf_X9_keep_22 _ _ _ _ _ _) ?_
      refine wp_ck (i_inb (by omega) (by omega)) ?_
      refine wp_nm (fun l_9 h_l_9 => ?_)
      have nl_l_9 : l_9.length = 6 := by rw [h_l_9, is_len]; assumption
      refine wp_ck (i_inb (by omega) (by omega)) ?_
      have n_4 : (0 : Int32).toInt = 0 := by decide
      refine wp_nm (fun l_11 h_l_11 => ?_)
      have nl_l_11 : l_11.length = 6 := by rw [h_l_11, is_len]; assumption
      exact wp_so3 ⟨nl_l_9, nl_l_11, (by first | assumption | exact zn_nil (by omega) | (rw [h_l_11]; first | exact zn_out h_4 (by omega) (by omega) | exact zn_in h_4 (by omega) (by omega) (by omega) | exact zn_ext h_4 (by omega) (by omega) (by omega) (by omega) (by omega) | exact zn_out (zn_sub h_4 (by omega) (by omega) (by omega) (by omega)) (by omega) (by omega)) | (exfalso; omega))⟩
    ·
      have dc_2 := i_ne c_2
      refine wp_bd1 (sf_X9_isBody hN h_0 h_1) (fun r_5 _ => ?_)
      refine wp_if (fun c_5 => ?_) (fun c_5 => ?_)
      ·
        exact wp_so3 ⟨h_2, h_3, h_4⟩
      ·
        refine wp_of (uf_X9_keep_22 _ _ _ _ _ _) ?_
        refine wp_ck (i_inb (by omega) (by omega)) ?_
        refine wp_nm (fun l_9__6 h_l_9__6 => ?_)
        have nl_l_9__6 : l_9__6.length = 6 := by rw [h_l_9__6, is_len]; assumption
        refine wp_ck (i_inb (by omega) (by omega)) ?_
        have n_8 : (0 : Int32).toInt = 0 := by decide
        refine wp_nm (fun l_11__7 h_l_11__7 => ?_)
        have nl_l_11__7 : l_11__7.length = 6 := by rw [h_l_11__7, is_len]; assumption
        exact wp_so3 ⟨nl_l_9__6, nl_l_11__7, (by first | assumption | exact zn_nil (by omega) | (rw [h_l_11__7]; first | exact zn_out h_4 (by omega) (by omega) | exact zn_in h_4 (by omega) (by omega) (by omega) | exact zn_ext h_4 (by omega) (by omega) (by omega) (by omega) (by omega) | exact zn_out (zn_sub h_4 (by omega) (by omega) (by omega) (by omega)) (by omega) (by omega)) | (exfalso; omega))⟩
  ·
    refine wp_ifp (by decide) ?_
    exact wp_so3 ⟨h_2, h_3, h_4⟩

theorem uf_X9_row_57 (N : Nat) (n : Nat) (x1 : Int32) (x4 : Int32) (v_shelf : List Int32) (v_many : List Int32) (v_items : List Int64) : fX9_row_57 N (n + 1) x1 x4 v_shelf v_many v_items = 
    if (((60 : Int32) * x1) + (60 : Int32)) ≤ x4 then
    (some ((1 : Int32), v_shelf, v_many, v_items))
    else (mm_ck (mm_inb x4 v_items.length) (mm_nm (mm_ls v_items x4 (0 : Int64)) (fun (l_17 : List Int64) =>
    mm_nm (x4 + (1 : Int32)) (fun (y_18 : Int32) =>
    fX9_row_57 N n x1 y_18 v_shelf v_many l_17)))) := rfl

set_option maxHeartbeats 4000000 in
set_option maxRecDepth 20000 in
theorem sf_X9_row_57 {N : Nat} (hN : 700 ≤ N)  : ∀ (n : Nat) (x1 : Int32) (x4 : Int32) (v_shelf : List Int32) (v_many : List Int32) (v_items : List Int64), v_shelf.length = 6 → v_many.length = 6 → v_items.length = 360 → zn v_many 0 6 0 61 → 0 ≤ x1.toInt → x1.toInt ≤ 5 → 60 * x1.toInt ≤ x4.toInt → x4.toInt ≤ 60 * x1.toInt + 60 → (60 * x1.toInt + 60 - x4.toInt).toNat < n → wp (fX9_row_57 N n x1 x4 v_shelf v_many v_items) (cu4 (fun (r : Int32) (wv_shelf : List Int32) (wv_many : List Int32) (wv_items : List Int64) => wv_shelf.length = 6 ∧ wv_many.length = 6 ∧ wv_items.length = 360 ∧ zn wv_many 0 6 0 61)) := by
  intro n
  induction n with
  | zero =>
    intro x1 x4 v_shelf v_many v_items h_0 h_1 h_2 h_3 h_4 h_5 h_6 h_7 hm
    exact absurd hm (by omega)
  | succ n ih =>
    intro x1 x4 v_shelf v_many v_items h_0 h_1 h_2 h_3 h_4 h_5 h_6 h_7 hm
    refine wp_of (uf_X9_row_57 _ _ _ _ _ _ _) ?_
    have n_2 : (60 : Int32).toInt = 60 := by decide
    generalize hz_z : ((60 : Int32) * x1) = z
    have e_3 := i_mulLE (c := 60) (by decide) hz_z (by omega) (by omega)
    generalize hz_z__4 : (z + (60 : Int32)) = z__4
    have e_5 := i_addE hz_z__4 (by omega) (by omega)
    refine wp_if (fun c_1 => ?_) (fun c_1 => ?_)
    ·
      have dc_1 := i_le c_1
      exact wp_so4 ⟨h_0, h_1, h_2, h_3⟩
    ·
      have dc_1 := i_nle c_1
      refine wp_ck (i_inb (by omega) (by omega)) ?_
      refine wp_nm (fun l_17 h_l_17 => ?_)
      have nl_l_17 : l_17.length = 360 := by rw [h_l_17, ls_len]; assumption
      have n_6 : (1 : Int32).toInt = 1 := by decide
      refine wp_nm (fun y_18 h_y_18 => ?_)
      first | have e_7 := i_addE h_y_18.symm (by omega) (by omega) | obtain ⟨k_7, e_7, e1_7, e2_7⟩ := i_addY h_y_18.symm
      exact ih _ _ _ _ _ h_0 h_1 nl_l_17 h_3 h_4 h_5 (by omega) (by omega) (by omega)

theorem uf_X9_row (N : Nat) (x1 : Int32) (x2 : Int32) (x3 : Int32) (v_shelf : List Int32) (v_many : List Int32) (v_items : List Int64) : fX9_row N x1 x2 x3 v_shelf v_many v_items = mm_bd1 (fX9_isShelf N x1) (fun (r_1 : Bool) =>
    if r_1 = false then
    (some ((-1 : Int32), v_shelf, v_many, v_items))
    else (mm_bd1 (fX9_within N ((x2).toInt64) (0 : Int64) (4 : Int64)) (fun (r_4 : Bool) =>
    if r_4 = false then
    (some ((-1 : Int32), v_shelf, v_many, v_items))
    else (if x3 ≤ (60 : Int32) then
    (if 0 ≤ x3 then
    (mm_nm (((50 : Int32) + x2)) (fun (y_9 : Int32) =>
    mm_ck (mm_inb x1 v_shelf.length) (mm_nm (mm_is v_shelf x1 y_9) (fun (l_11 : List Int32) =>
    mm_ck (mm_inb x1 v_many.length) (mm_nm (mm_is v_many x1 x3) (fun (l_13 : List Int32) =>
    mm_nm (((60 : Int32) * x1)) (fun (y_14 : Int32) =>
    fX9_row_57 N N x1 y_14 l_11 l_13 v_items)))))))
    else (some ((-14 : Int32), v_shelf, v_many, v_items)))
    else (some ((-1 : Int32), v_shelf, v_many, v_items)))))) := rfl

set_option maxHeartbeats 4000000 in
set_option maxRecDepth 20000 in
theorem sf_X9_row {N : Nat} (hN : 700 ≤ N) {x1 : Int32} {x2 : Int32} {x3 : Int32} {v_shelf : List Int32} {v_many : List Int32} {v_items : List Int64} (h_0 : v_shelf.length = 6) (h_1 : v_many.length = 6) (h_2 : v_items.length = 360) (h_3 : zn v_many 0 6 0 61) : wp (fX9_row N x1 x2 x3 v_shelf v_many v_items) (cu4 (fun (r : Int32) (wv_shelf : List Int32) (wv_many : List Int32) (wv_items : List Int64) => wv_shelf.length = 6 ∧ wv_many.length = 6 ∧ wv_items.length = 360 ∧ zn wv_many 0 6 0 61)) := by
  refine wp_of (uf_X9_row _ _ _ _ _ _ _) ?_
  refine wp_bd1 (sf_X9_isShelf hN ) (fun r_1 q_1 => ?_)
  rcases q_1 with ⟨rfl, q_1⟩ | ⟨rfl, q_1⟩
  ·
    refine wp_ifn (by decide) ?_
    have n_2 := i_64 x2
    have n_3 : (0 : Int64).toInt = 0 := by decide
    have n_4 : (4 : Int64).toInt = 4 := by decide
    refine wp_bd1 (sf_X9_within hN ) (fun r_4 q_5 => ?_)
    rcases q_5 with ⟨rfl, q_5⟩ | ⟨rfl, q_5⟩
    ·
      refine wp_ifn (by decide) ?_
      have n_7 : (60 : Int32).toInt = 60 := by decide
      refine wp_if (fun c_6 => ?_) (fun c_6 => ?_)
      ·
        have dc_6 := i_le c_6
        have n_9 : (0 : Int32).toInt = 0 := by decide
        refine wp_if (fun c_8 => ?_) (fun c_8 => ?_)
        ·
          have dc_8 := i_le c_8
          refine wp_nm (fun y_9 _ => ?_)
          refine wp_ck (i_inb (by omega) (by omega)) ?_
          refine wp_nm (fun l_11 h_l_11 => ?_)
          have nl_l_11 : l_11.length = 6 := by rw [h_l_11, is_len]; assumption
          refine wp_ck (i_inb (by omega) (by omega)) ?_
          refine wp_nm (fun l_13 h_l_13 => ?_)
          have nl_l_13 : l_13.length = 6 := by rw [h_l_13, is_len]; assumption
          refine wp_nm (fun y_14 h_y_14 => ?_)
          first | have e_10 := i_mulLE (c := 60) (by decide) h_y_14.symm (by omega) (by omega) | obtain ⟨k_10, e_10, e1_10, e2_10⟩ := i_mulL (c := 60) (by decide) h_y_14.symm
          exact sf_X9_row_57 hN _ _ _ _ _ _ nl_l_11 nl_l_13 h_2 (by first | assumption | exact zn_nil (by omega) | (rw [h_l_13]; first | exact zn_out h_3 (by omega) (by omega) | exact zn_in h_3 (by omega) (by omega) (by omega) | exact zn_ext h_3 (by omega) (by omega) (by omega) (by omega) (by omega) | exact zn_out (zn_sub h_3 (by omega) (by omega) (by omega) (by omega)) (by omega) (by omega)) | (exfalso; omega)) (by omega) (by omega) (by omega) (by omega) (by omega)
        ·
          have dc_8 := i_nle c_8
          exact wp_so4 ⟨h_0, h_1, h_2, h_3⟩
      ·
        have dc_6 := i_nle c_6
        exact wp_so4 ⟨h_0, h_1, h_2, h_3⟩
    ·
      refine wp_ifp (by decide) ?_
      exact wp_so4 ⟨h_0, h_1, h_2, h_3⟩
  ·
    refine wp_ifp (by decide) ?_
    exact wp_so4 ⟨h_0, h_1, h_2, h_3⟩

theorem uf_X9_refusal (N : Nat) (x1 : Int32) (x2 : Int32) (v_shelf : List Int32) (v_many : List Int32) : fX9_refusal N x1 x2 v_shelf v_many = mm_bd1 (fX9_isShelf N x1) (fun (r_1 : Bool) =>
    if r_1 = false then
    (some ((-1 : Int32)))
    else (mm_ck (mm_inb x1 v_shelf.length) (if 0 ≤ (mm_ig v_shelf x1) then
    (mm_ck (mm_inb x1 v_shelf.length) (if (50 : Int32) ≤ (mm_ig v_shelf x1) then
    (if x2 < 0 then
    (some ((-13 : Int32)))
    else (mm_ck (mm_inb x1 v_many.length) (if (mm_ig v_many x1) ≤ x2 then
    (some ((-13 : Int32)))
    else (some ((0 : Int32))))))
    else (some ((-12 : Int32)))))
    else (some ((-11 : Int32)))))) := rfl

set_option maxHeartbeats 4000000 in
set_option maxRecDepth 20000 in
theorem sf_X9_refusal {N : Nat} (hN : 700 ≤ N) {x1 : Int32} {x2 : Int32} {v_shelf : List Int32} {v_many : List Int32} (h_0 : v_shelf.length = 6) (h_1 : v_many.length = 6) (h_2 : zn v_many 0 6 0 61) : wp (fX9_refusal N x1 x2 v_shelf v_many) (fun (r : Int32) => ((r.toInt = 0 → 0 ≤ x1.toInt ∧ x1.toInt ≤ 5 ∧ 0 ≤ x2.toInt ∧ x2.toInt < 60))) := by
  refine wp_of (uf_X9_refusal _ _ _ _ _) ?_
  refine wp_bd1 (sf_X9_isShelf hN ) (fun r_1 q_1 => ?_)
  rcases q_1 with ⟨rfl, q_1⟩ | ⟨rfl, q_1⟩
  ·
    refine wp_ifn (by decide) ?_
    refine wp_ck (i_inb (by omega) (by omega)) ?_
    have n_3 : (0 : Int32).toInt = 0 := by decide
    refine wp_if (fun c_2 => ?_) (fun c_2 => ?_)
    ·
      have dc_2 := i_le c_2
      refine wp_ck (i_inb (by omega) (by omega)) ?_
      have n_5 : (50 : Int32).toInt = 50 := by decide
      refine wp_if (fun c_4 => ?_) (fun c_4 => ?_)
      ·
        have dc_4 := i_le c_4
        refine wp_if (fun c_6 => ?_) (fun c_6 => ?_)
        ·
          have dc_6 := i_lt c_6
          have n_7 : (-13 : Int32).toInt = -13 := by decide
          exact wp_so1 (by omega)
        ·
          have dc_6 := i_nlt c_6
          refine wp_ck (i_inb (by omega) (by omega)) ?_
          obtain ⟨e_9, e1_9⟩ := zn_get h_2 (i := x1) (by omega) (by omega) (by omega) (by omega)
          refine wp_if (fun c_8 => ?_) (fun c_8 => ?_)
          ·
            have dc_8 := i_le c_8
            have n_10 : (-13 : Int32).toInt = -13 := by decide
            exact wp_so1 (by omega)
          ·
            have dc_8 := i_nle c_8
            exact wp_so1 (by omega)
      ·
        have dc_4 := i_nle c_4
        have n_11 : (-12 : Int32).toInt = -12 := by decide
        exact wp_so1 (by omega)
    ·
      have dc_2 := i_nle c_2
      have n_12 : (-11 : Int32).toInt = -11 := by decide
      exact wp_so1 (by omega)
  ·
    refine wp_ifp (by decide) ?_
    have n_13 : (-1 : Int32).toInt = -1 := by decide
    exact wp_so1 (by omega)

theorem uf_X9_asSort (N : Nat) (x0 : Int32) (x1 : Int64) : fX9_asSort N x0 x1 = if x0 = 0 then
    (some ((((x1.toInt32).toInt8.toInt32).toInt64)))
    else (if x0 = (1 : Int32) then
    (some ((((x1.toInt32).toInt16.toInt32).toInt64)))
    else (if x0 = (2 : Int32) then
    (some (((x1.toInt32).toInt64)))
    else (if x0 = (4 : Int32) then
    (if (lg_cmp x1 (0 : Int64)) = 0 then
    (some ((0 : Int64)))
    else (some ((1 : Int64))))
    else (some (x1))))) := rfl

set_option maxHeartbeats 4000000 in
set_option maxRecDepth 20000 in
theorem sf_X9_asSort {N : Nat} (hN : 700 ≤ N) {x0 : Int32} {x1 : Int64}  : wp (fX9_asSort N x0 x1) (fun (r : Int64) => True) := by
  refine wp_of (uf_X9_asSort _ _ _) ?_
  have n_2 : (0 : Int32).toInt = 0 := by decide
  refine wp_if (fun c_1 => ?_) (fun c_1 => ?_)
  ·
    have dc_1 := i_eq c_1
    exact wp_so1 trivial
  ·
    have dc_1 := i_ne c_1
    have n_4 : (1 : Int32).toInt = 1 := by decide
    refine wp_if (fun c_3 => ?_) (fun c_3 => ?_)
    ·
      have dc_3 := i_eq c_3
      exact wp_so1 trivial
    ·
      have dc_3 := i_ne c_3
      have n_6 : (2 : Int32).toInt = 2 := by decide
      refine wp_if (fun c_5 => ?_) (fun c_5 => ?_)
      ·
        have dc_5 := i_eq c_5
        exact wp_so1 trivial
      ·
        have dc_5 := i_ne c_5
        have n_8 : (4 : Int32).toInt = 4 := by decide
        refine wp_if (fun c_7 => ?_) (fun c_7 => ?_)
        ·
          have dc_7 := i_eq c_7
          refine wp_if (fun c_9 => ?_) (fun c_9 => ?_)
          ·
            exact wp_so1 trivial
          ·
            exact wp_so1 trivial
        ·
          have dc_7 := i_ne c_7
          exact wp_so1 trivial

theorem uf_X9_put (N : Nat) (x1 : Int32) (x2 : Int32) (x3 : Int64) (v_shelf : List Int32) (v_many : List Int32) (v_items : List Int64) : fX9_put N x1 x2 x3 v_shelf v_many v_items = mm_bd1 (fX9_refusal N x1 x2 v_shelf v_many) (fun (r_1 : Int32) =>
    if r_1 = 0 then
    (mm_ck (mm_inb x1 v_shelf.length) (mm_bd1 (fX9_asSort N ((mm_ig v_shelf x1) - (50 : Int32)) x3) (fun (r_5 : Int64) =>
    mm_ck (mm_inb (((60 : Int32) * x1) + x2) v_items.length) (mm_nm (mm_ls v_items (((60 : Int32) * x1) + x2) r_5) (fun (l_8 : List Int64) =>
    fX9_put_37 N r_1 v_shelf v_many l_8)))))
    else (fX9_put_37 N r_1 v_shelf v_many v_items)) := rfl

theorem uf_X9_put_37 (N : Nat) (x5 : Int32) (v_shelf : List Int32) (v_many : List Int32) (v_items : List Int64) : fX9_put_37 N x5 v_shelf v_many v_items = if x5 = 0 then
    (some ((1 : Int32), v_items))
    else (some (x5, v_items)) := rfl

set_option maxHeartbeats 4000000 in
set_option maxRecDepth 20000 in
theorem sf_X9_put {N : Nat} (hN : 700 ≤ N) {x1 : Int32} {x2 : Int32} {x3 : Int64} {v_shelf : List Int32} {v_many : List Int32} {v_items : List Int64} (h_0 : v_shelf.length = 6) (h_1 : v_many.length = 6) (h_2 : v_items.length = 360) (h_3 : zn v_many 0 6 0 61) : wp (fX9_put N x1 x2 x3 v_shelf v_many v_items) (cu2 (fun (r : Int32) (wv_items : List Int64) => wv_items.length = 360)) := by
  refine wp_of (uf_X9_put _ _ _ _ _ _ _) ?_
  refine wp_bd1 (sf_X9_refusal hN h_0 h_1 h_3) (fun r_1 q_1 => ?_)
  have n_3 : (0 : Int32).toInt = 0 := by decide
  refine wp_if (fun c_2 => ?_) (fun c_2 => ?_)
  ·
    have dc_2 := i_eq c_2
    refine wp_ck (i_inb (by omega) (by omega)) ?_
    refine wp_bd1 (sf_X9_asSort hN ) (fun r_5 _ => ?_)
    have n_4 : (60 : Int32).toInt = 60 := by decide
    generalize hz_z : ((60 : Int32) * x1) = z
    first | have e_5 := i_mulLE (c := 60) (by decide) hz_z (by omega) (by omega) | obtain ⟨k_5, e_5, e1_5, e2_5⟩ := i_mulL (c := 60) (by decide) hz_z
    generalize hz_z__6 : (z + x2) = z__6
    first | have e_7 := i_addE hz_z__6 (by omega) (by omega) | obtain ⟨k_7, e_7, e1_7, e2_7⟩ := i_addY hz_z__6
    refine wp_ck (i_inb (by omega) (by omega)) ?_
    refine wp_nm (fun l_8 h_l_8 => ?_)
    have nl_l_8 : l_8.length = 360 := by rw [h_l_8, ls_len]; assumption
    refine wp_of (uf_X9_put_37 _ _ _ _ _) ?_
    refine wp_ifp c_2 ?_
    exact wp_so2 nl_l_8
  ·
    have dc_2 := i_ne c_2
    refine wp_of (uf_X9_put_37 _ _ _ _ _) ?_
    refine wp_ifn c_2 ?_
    exact wp_so2 h_2

theorem uf_X9_element (N : Nat) (x1 : Int32) (x2 : Int32) (v_shelf : List Int32) (v_many : List Int32) (v_items : List Int64) : fX9_element N x1 x2 v_shelf v_many v_items = mm_bd1 (fX9_refusal N x1 x2 v_shelf v_many) (fun (r_1 : Int32) =>
    if r_1 = 0 then
    (mm_ck (mm_inb (((60 : Int32) * x1) + x2) v_items.length) (some ((mm_lg v_items (((60 : Int32) * x1) + x2)))))
    else (some ((-9223372036854775808 : Int64)))) := rfl

set_option maxHeartbeats 4000000 in
set_option maxRecDepth 20000 in
theorem sf_X9_element {N : Nat} (hN : 700 ≤ N) {x1 : Int32} {x2 : Int32} {v_shelf : List Int32} {v_many : List Int32} {v_items : List Int64} (h_0 : v_shelf.length = 6) (h_1 : v_many.length = 6) (h_2 : v_items.length = 360) (h_3 : zn v_many 0 6 0 61) : wp (fX9_element N x1 x2 v_shelf v_many v_items) (fun (r : Int64) => True) := by
  refine wp_of (uf_X9_element _ _ _ _ _ _) ?_
  refine wp_bd1 (sf_X9_refusal hN h_0 h_1 h_3) (fun r_1 q_1 => ?_)
  have n_3 : (0 : Int32).toInt = 0 := by decide
  refine wp_if (fun c_2 => ?_) (fun c_2 => ?_)
  ·
    have dc_2 := i_eq c_2
    have n_4 : (60 : Int32).toInt = 60 := by decide
    generalize hz_z : ((60 : Int32) * x1) = z
    first | have e_5 := i_mulLE (c := 60) (by decide) hz_z (by omega) (by omega) | obtain ⟨k_5, e_5, e1_5, e2_5⟩ := i_mulL (c := 60) (by decide) hz_z
    generalize hz_z__6 : (z + x2) = z__6
    first | have e_7 := i_addE hz_z__6 (by omega) (by omega) | obtain ⟨k_7, e_7, e1_7, e2_7⟩ := i_addY hz_z__6
    refine wp_ck (i_inb (by omega) (by omega)) ?_
    exact wp_so1 trivial
  ·
    have dc_2 := i_ne c_2
    exact wp_so1 trivial

theorem uf_X9_shift_150 (N : Nat) (n : Nat) (x3 : Int32) (x4 : Int32) (x5 : Int32) (x6 : Int32) (v_shelf : List Int32) (v_many : List Int32) (v_items : List Int64) (v_carried : List Int64) : fX9_shift_150 N (n + 1) x3 x4 x5 x6 v_shelf v_many v_items v_carried = 
    if x5 ≤ x6 then
    (some (x5, v_items, v_carried))
    else (mm_ck (mm_inb x6 v_carried.length) (mm_nm ((mm_lg v_carried x6)) (fun (y_31 : Int64) =>
    mm_ck (mm_inb ((((60 : Int32) * x3) + x4) + x6) v_items.length) (mm_nm (mm_ls v_items ((((60 : Int32) * x3) + x4) + x6) y_31) (fun (l_33 : List Int64) =>
    mm_nm (x6 + (1 : Int32)) (fun (y_34 : Int32) =>
    fX9_shift_150 N n x3 x4 x5 y_34 v_shelf v_many l_33 v_carried)))))) := rfl

set_option maxHeartbeats 4000000 in
set_option maxRecDepth 20000 in
theorem sf_X9_shift_150 {N : Nat} (hN : 700 ≤ N)  : ∀ (n : Nat) (x3 : Int32) (x4 : Int32) (x5 : Int32) (x6 : Int32) (v_shelf : List Int32) (v_many : List Int32) (v_items : List Int64) (v_carried : List Int64), v_shelf.length = 6 → v_many.length = 6 → v_items.length = 360 → v_carried.length = 60 → zn v_many 0 6 0 61 → 0 ≤ x3.toInt → x3.toInt ≤ 5 → 0 ≤ x4.toInt → 0 ≤ x5.toInt → x5.toInt ≤ 60 → x4.toInt + x5.toInt ≤ 60 → 0 ≤ x6.toInt → x6.toInt ≤ x5.toInt → (x5.toInt - x6.toInt).toNat < n → wp (fX9_shift_150 N n x3 x4 x5 x6 v_shelf v_many v_items v_carried) (cu3 (fun (r : Int32) (wv_items : List Int64) (wv_carried : List Int64) => wv_items.length = 360 ∧ wv_carried.length = 60)) := by
  intro n
  induction n with
  | zero =>
    intro x3 x4 x5 x6 v_shelf v_many v_items v_carried h_0 h_1 h_2 h_3 h_4 h_5 h_6 h_7 h_8 h_9 h_10 h_11 h_12 hm
    exact absurd hm (by omega)
  | succ n ih =>
    intro x3 x4 x5 x6 v_shelf v_many v_items v_carried h_0 h_1 h_2 h_3 h_4 h_5 h_6 h_7 h_8 h_9 h_10 h_11 h_12 hm
    refine wp_of (uf_X9_shift_150 _ _ _ _ _ _ _ _ _ _) ?_
    refine wp_if (fun c_1 => ?_) (fun c_1 => ?_)
    ·
      have dc_1 := i_le c_1
      exact wp_so3 ⟨h_2, h_3⟩
    ·
      have dc_1 := i_nle c_1
      refine wp_ck (i_inb (by omega) (by omega)) ?_
      refine wp_nm (fun y_31 _ => ?_)
      have n_2 : (60 : Int32).toInt = 60 := by decide
      generalize hz_z : ((60 : Int32) * x3) = z
      have e_3 := i_mulLE (c := 60) (by decide) hz_z (by omega) (by omega)
      generalize hz_z__4 : (z + x4) = z__4
      first | have e_5 := i_addE hz_z__4 (by omega) (by omega) | obtain ⟨k_5, e_5, e1_5, e2_5⟩ := i_addY hz_z__4
      generalize hz_z__6 : (z__4 + x6) = z__6
      first | have e_7 := i_addE hz_z__6 (by omega) (by omega) | obtain ⟨k_7, e_7, e1_7, e2_7⟩ := i_addY hz_z__6
      refine wp_ck (i_inb (by omega) (by omega)) ?_
      refine wp_nm (fun l_33 h_l_33 => ?_)
      have nl_l_33 : l_33.length = 360 := by rw [h_l_33, ls_len]; assumption
      have n_8 : (1 : Int32).toInt = 1 := by decide
      refine wp_nm (fun y_34 h_y_34 => ?_)
      have e_9 := i_addE h_y_34.symm (by omega) (by omega)
      exact ih _ _ _ _ _ _ _ _ h_0 h_1 nl_l_33 h_3 h_4 h_5 h_6 h_7 h_8 h_9 h_10 (by omega) (by omega) (by omega)

theorem uf_X9_shift_113 (N : Nat) (n : Nat) (x1 : Int32) (x2 : Int32) (x3 : Int32) (x4 : Int32) (x5 : Int32) (x6 : Int32) (v_shelf : List Int32) (v_many : List Int32) (v_items : List Int64) (v_carried : List Int64) : fX9_shift_113 N (n + 1) x1 x2 x3 x4 x5 x6 v_shelf v_many v_items v_carried = 
    if x5 ≤ x6 then
    (fX9_shift_150 N N x3 x4 x5 (0 : Int32) v_shelf v_many v_items v_carried)
    else (mm_ck (mm_inb ((((60 : Int32) * x1) + x2) + x6) v_items.length) (mm_nm ((mm_lg v_items ((((60 : Int32) * x1) + x2) + x6))) (fun (y_25 : Int64) =>
    mm_ck (mm_inb x6 v_carried.length) (mm_nm (mm_ls v_carried x6 y_25) (fun (l_27 : List Int64) =>
    mm_nm (x6 + (1 : Int32)) (fun (y_28 : Int32) =>
    fX9_shift_113 N n x1 x2 x3 x4 x5 y_28 v_shelf v_many v_items l_27)))))) := rfl

set_option maxHeartbeats 4000000 in
set_option maxRecDepth 20000 in
theorem sf_X9_shift_113 {N : Nat} (hN : 700 ≤ N)  : ∀ (n : Nat) (x1 : Int32) (x2 : Int32) (x3 : Int32) (x4 : Int32) (x5 : Int32) (x6 : Int32) (v_shelf : List Int32) (v_many : List Int32) (v_items : List Int64) (v_carried : List Int64), v_shelf.length = 6 → v_many.length = 6 → v_items.length = 360 → v_carried.length = 60 → zn v_many 0 6 0 61 → 0 ≤ x1.toInt → x1.toInt ≤ 5 → 0 ≤ x3.toInt → x3.toInt ≤ 5 → 0 ≤ x2.toInt → 0 ≤ x4.toInt → 0 ≤ x5.toInt → x5.toInt ≤ 60 → x2.toInt + x5.toInt ≤ 60 → x4.toInt + x5.toInt ≤ 60 → 0 ≤ x6.toInt → x6.toInt ≤ x5.toInt → (x5.toInt - x6.toInt).toNat < n → wp (fX9_shift_113 N n x1 x2 x3 x4 x5 x6 v_shelf v_many v_items v_carried) (cu3 (fun (r : Int32) (wv_items : List Int64) (wv_carried : List Int64) => wv_items.length = 360 ∧ wv_carried.length = 60)) := by
  intro n
  induction n with
  | zero =>
    intro x1 x2 x3 x4 x5 x6 v_shelf v_many v_items v_carried h_0 h_1 h_2 h_3 h_4 h_5 h_6 h_7 h_8 h_9 h_10 h_11 h_12 h_13 h_14 h_15 h_16 hm
    exact absurd hm (by omega)
  | succ n ih =>
    intro x1 x2 x3 x4 x5 x6 v_shelf v_many v_items v_carried h_0 h_1 h_2 h_3 h_4 h_5 h_6 h_7 h_8 h_9 h_10 h_11 h_12 h_13 h_14 h_15 h_16 hm
    refine wp_of (uf_X9_shift_113 _ _ _ _ _ _ _ _ _ _ _ _) ?_
    refine wp_if (fun c_1 => ?_) (fun c_1 => ?_)
    ·
      have dc_1 := i_le c_1
      have n_2 : (0 : Int32).toInt = 0 := by decide
      exact sf_X9_shift_150 hN _ _ _ _ _ _ _ _ _ h_0 h_1 h_2 h_3 h_4 h_7 h_8 h_10 h_11 h_12 h_14 (by omega) (by omega) (by omega)
    ·
      have dc_1 := i_nle c_1
      have n_3 : (60 : Int32).toInt = 60 := by decide
      generalize hz_z : ((60 : Int32) * x1) = z
      have e_4 := i_mulLE (c := 60) (by decide) hz_z (by omega) (by omega)
      generalize hz_z__5 : (z + x2) = z__5
      first | have e_6 := i_addE hz_z__5 (by omega) (by omega) | obtain ⟨k_6, e_6, e1_6, e2_6⟩ := i_addY hz_z__5
      generalize hz_z__7 : (z__5 + x6) = z__7
      first | have e_8 := i_addE hz_z__7 (by omega) (by omega) | obtain ⟨k_8, e_8, e1_8, e2_8⟩ := i_addY hz_z__7
      refine wp_ck (i_inb (by omega) (by omega)) ?_
      refine wp_nm (fun y_25 _ => ?_)
      refine wp_ck (i_inb (by omega) (by omega)) ?_
      refine wp_nm (fun l_27 h_l_27 => ?_)
      have nl_l_27 : l_27.length = 60 := by rw [h_l_27, ls_len]; assumption
      have n_9 : (1 : Int32).toInt = 1 := by decide
      refine wp_nm (fun y_28 h_y_28 => ?_)
      have e_10 := i_addE h_y_28.symm (by omega) (by omega)
      exact ih _ _ _ _ _ _ _ _ _ _ h_0 h_1 h_2 nl_l_27 h_4 h_5 h_6 h_7 h_8 h_9 h_10 h_11 h_12 h_13 h_14 (by omega) (by omega) (by omega)

theorem uf_X9_shift (N : Nat) (x1 : Int32) (x2 : Int32) (x3 : Int32) (x4 : Int32) (x5 : Int32) (v_shelf : List Int32) (v_many : List Int32) (v_items : List Int64) (v_carried : List Int64) : fX9_shift N x1 x2 x3 x4 x5 v_shelf v_many v_items v_carried = mm_bd1 (fX9_isShelf N x1) (fun (r_1 : Bool) =>
    if r_1 = false then
    (some ((-1 : Int32), v_items, v_carried))
    else (mm_bd1 (fX9_isShelf N x3) (fun (r_4 : Bool) =>
    if r_4 = false then
    (some ((-1 : Int32), v_items, v_carried))
    else (mm_ck (mm_inb x1 v_shelf.length) (if (mm_ig v_shelf x1) < 0 then
    (some ((-11 : Int32), v_items, v_carried))
    else (mm_ck (mm_inb x3 v_shelf.length) (if 0 ≤ (mm_ig v_shelf x3) then
    (mm_ck (mm_inb x1 v_shelf.length) (if (mm_ig v_shelf x1) < (50 : Int32) then
    (some ((-12 : Int32), v_items, v_carried))
    else (mm_ck (mm_inb x1 v_shelf.length) (mm_ck (mm_inb x3 v_shelf.length) (if (mm_ig v_shelf x1) = (mm_ig v_shelf x3) then
    (if x5 < 0 then
    (some ((-13 : Int32), v_items, v_carried))
    else (if x2 < 0 then
    (some ((-13 : Int32), v_items, v_carried))
    else (if x4 < 0 then
    (some ((-13 : Int32), v_items, v_carried))
    else (mm_ck (mm_inb x1 v_many.length) (if ((mm_ig v_many x1) - x5) < x2 then
    (some ((-13 : Int32), v_items, v_carried))
    else (mm_ck (mm_inb x3 v_many.length) (if x4 ≤ ((mm_ig v_many x3) - x5) then
    (fX9_shift_113 N N x1 x2 x3 x4 x5 (0 : Int32) v_shelf v_many v_items v_carried)
    else (some ((-13 : Int32), v_items, v_carried)))))))))
    else (some ((-12 : Int32), v_items, v_carried)))))))
    else (some ((-11 : Int32), v_items, v_carried))))))))) := rfl

set_option maxHeartbeats 4000000 in
set_option maxRecDepth 20000 in
theorem sf_X9_shift {N : Nat} (hN : 700 ≤ N) {x1 : Int32} {x2 : Int32} {x3 : Int32} {x4 : Int32} {x5 : Int32} {v_shelf : List Int32} {v_many : List Int32} {v_items : List Int64} {v_carried : List Int64} (h_0 : v_shelf.length = 6) (h_1 : v_many.length = 6) (h_2 : v_items.length = 360) (h_3 : v_carried.length = 60) (h_4 : zn v_many 0 6 0 61) : wp (fX9_shift N x1 x2 x3 x4 x5 v_shelf v_many v_items v_carried) (cu3 (fun (r : Int32) (wv_items : List Int64) (wv_carried : List Int64) => wv_items.length = 360 ∧ wv_carried.length = 60)) := by
  have hx2 : x2.toInt < 2147483648 := Int32.toInt_lt x2
  have hx4 : x4.toInt < 2147483648 := Int32.toInt_lt x4
  have hx5 : x5.toInt < 2147483648 := Int32.toInt_lt x5
  have hy2 : -2147483648 ≤ x2.toInt := Int32.le_toInt x2
  have hy4 : -2147483648 ≤ x4.toInt := Int32.le_toInt x4
  have hy5 : -2147483648 ≤ x5.toInt := Int32.le_toInt x5
  refine wp_of (uf_X9_shift _ _ _ _ _ _ _ _ _ _) ?_
  refine wp_bd1 (sf_X9_isShelf hN ) (fun r_1 q_1 => ?_)
  rcases q_1 with ⟨rfl, q_1⟩ | ⟨rfl, q_1⟩
  ·
    refine wp_ifn (by decide) ?_
    refine wp_bd1 (sf_X9_isShelf hN ) (fun r_4 q_2 => ?_)
    rcases q_2 with ⟨rfl, q_2⟩ | ⟨rfl, q_2⟩
    ·
      refine wp_ifn (by decide) ?_
      refine wp_ck (i_inb (by omega) (by omega)) ?_
      have n_4 : (0 : Int32).toInt = 0 := by decide
      refine wp_if (fun c_3 => ?_) (fun c_3 => ?_)
      ·
        have dc_3 := i_lt c_3
        exact wp_so3 ⟨h_2, h_3⟩
      ·
        have dc_3 := i_nlt c_3
        refine wp_ck (i_inb (by omega) (by omega)) ?_
        refine wp_if (fun c_5 => ?_) (fun c_5 => ?_)
        ·
          have dc_5 := i_le c_5
          refine wp_ck (i_inb (by omega) (by omega)) ?_
          have n_7 : (50 : Int32).toInt = 50 := by decide
          refine wp_if (fun c_6 => ?_) (fun c_6 => ?_)
          ·
            have dc_6 := i_lt c_6
            exact wp_so3 ⟨h_2, h_3⟩
          ·
            have dc_6 := i_nlt c_6
            refine wp_ck (i_inb (by omega) (by omega)) ?_
            refine wp_ck (i_inb (by omega) (by omega)) ?_
            refine wp_if (fun c_8 => ?_) (fun c_8 => ?_)
            ·
              have dc_8 := i_eq c_8
              refine wp_if (fun c_9 => ?_) (fun c_9 => ?_)
              ·
                have dc_9 := i_lt c_9
                exact wp_so3 ⟨h_2, h_3⟩
              ·
                have dc_9 := i_nlt c_9
                refine wp_if (fun c_10 => ?_) (fun c_10 => ?_)
                ·
                  have dc_10 := i_lt c_10
                  exact wp_so3 ⟨h_2, h_3⟩
                ·
                  have dc_10 := i_nlt c_10
                  refine wp_if (fun c_11 => ?_) (fun c_11 => ?_)
                  ·
                    have dc_11 := i_lt c_11
                    exact wp_so3 ⟨h_2, h_3⟩
                  ·
                    have dc_11 := i_nlt c_11
                    refine wp_ck (i_inb (by omega) (by omega)) ?_
                    obtain ⟨e_13, e1_13⟩ := zn_get h_4 (i := x1) (by omega) (by omega) (by omega) (by omega)
                    generalize hz_z : ((mm_ig v_many x1) - x5) = z
                    first | have e_14 := i_subE hz_z (by omega) (by omega) | obtain ⟨k_14, e_14, e1_14, e2_14⟩ := i_subY hz_z
                    refine wp_if (fun c_12 => ?_) (fun c_12 => ?_)
                    ·
                      have dc_12 := i_lt c_12
                      exact wp_so3 ⟨h_2, h_3⟩
                    ·
                      have dc_12 := i_nlt c_12
                      refine wp_ck (i_inb (by omega) (by omega)) ?_
                      obtain ⟨e_16, e1_16⟩ := zn_get h_4 (i := x3) (by omega) (by omega) (by omega) (by omega)
                      generalize hz_z__17 : ((mm_ig v_many x3) - x5) = z__17
                      first | have e_18 := i_subE hz_z__17 (by omega) (by omega) | obtain ⟨k_18, e_18, e1_18, e2_18⟩ := i_subY hz_z__17
                      refine wp_if (fun c_15 => ?_) (fun c_15 => ?_)
                      ·
                        have dc_15 := i_le c_15
                        exact sf_X9_shift_113 hN _ _ _ _ _ _ _ _ _ _ _ h_0 h_1 h_2 h_3 h_4 (by omega) (by omega) (by omega) (by omega) (by omega) (by omega) (by omega) (by omega) (by omega) (by omega) (by omega) (by omega) (by omega)
                      ·
                        have dc_15 := i_nle c_15
                        exact wp_so3 ⟨h_2, h_3⟩
            ·
              have dc_8 := i_ne c_8
              exact wp_so3 ⟨h_2, h_3⟩
        ·
          have dc_5 := i_nle c_5
          exact wp_so3 ⟨h_2, h_3⟩
    ·
      refine wp_ifp (by decide) ?_
      exact wp_so3 ⟨h_2, h_3⟩
  ·
    refine wp_ifp (by decide) ?_
    exact wp_so3 ⟨h_2, h_3⟩

theorem uf_X9_above (N : Nat) (x0 : Int32) : fX9_above N x0 = if x0 = (3 : Int32) then
    (some ((2 : Int32)))
    else (if x0 = (5 : Int32) then
    (some ((3 : Int32)))
    else (if x0 = (6 : Int32) then
    (some ((1 : Int32)))
    else (if x0 = (7 : Int32) then
    (some ((4 : Int32)))
    else (some ((0 : Int32)))))) := rfl

set_option maxHeartbeats 4000000 in
set_option maxRecDepth 20000 in
theorem sf_X9_above {N : Nat} (hN : 700 ≤ N) {x0 : Int32}  : wp (fX9_above N x0) (fun (r : Int32) => 0 ≤ r.toInt ∧ ((0 < x0.toInt → r.toInt < x0.toInt)) ∧ r.toInt ≤ 7) := by
  refine wp_of (uf_X9_above _ _) ?_
  have n_2 : (3 : Int32).toInt = 3 := by decide
  refine wp_if (fun c_1 => ?_) (fun c_1 => ?_)
  ·
    have dc_1 := i_eq c_1
    have n_3 : (2 : Int32).toInt = 2 := by decide
    exact wp_so1 ⟨(by omega), (by omega), (by omega)⟩
  ·
    have dc_1 := i_ne c_1
    have n_5 : (5 : Int32).toInt = 5 := by decide
    refine wp_if (fun c_4 => ?_) (fun c_4 => ?_)
    ·
      have dc_4 := i_eq c_4
      exact wp_so1 ⟨(by omega), (by omega), (by omega)⟩
    ·
      have dc_4 := i_ne c_4
      have n_7 : (6 : Int32).toInt = 6 := by decide
      refine wp_if (fun c_6 => ?_) (fun c_6 => ?_)
      ·
        have dc_6 := i_eq c_6
        have n_8 : (1 : Int32).toInt = 1 := by decide
        exact wp_so1 ⟨(by omega), (by omega), (by omega)⟩
      ·
        have dc_6 := i_ne c_6
        have n_10 : (7 : Int32).toInt = 7 := by decide
        refine wp_if (fun c_9 => ?_) (fun c_9 => ?_)
        ·
          have dc_9 := i_eq c_9
          have n_11 : (4 : Int32).toInt = 4 := by decide
          exact wp_so1 ⟨(by omega), (by omega), (by omega)⟩
        ·
          have dc_9 := i_ne c_9
          have n_12 : (0 : Int32).toInt = 0 := by decide
          exact wp_so1 ⟨(by omega), (by omega), (by omega)⟩

theorem uf_X9_taken_58 (N : Nat) (n : Nat) (x1 : Int32) (x2 : Int32) (x3 : Int32) (v_bodyKind : List Int32) (v_shelf : List Int32) : fX9_taken_58 N (n + 1) x1 x2 x3 v_bodyKind v_shelf = 
    if x3 = x2 then
    (fX9_taken_75 N x1 x2 x3 v_bodyKind v_shelf)
    else (if x3 ≤ 0 then
    (fX9_taken_75 N x1 x2 x3 v_bodyKind v_shelf)
    else (mm_bd1 (fX9_above N x3) (fun (r_16 : Int32) =>
    fX9_taken_58 N n x1 x2 r_16 v_bodyKind v_shelf))) := rfl

theorem uf_X9_taken_75 (N : Nat) (x1 : Int32) (x2 : Int32) (x3 : Int32) (v_bodyKind : List Int32) (v_shelf : List Int32) : fX9_taken_75 N x1 x2 x3 v_bodyKind v_shelf = if x3 = x2 then
    (mm_ck (mm_inb x1 v_shelf.length) (mm_bd1 (fX9_kindOf N (mm_ig v_shelf x1) v_bodyKind) (fun (r_20 : Int32) =>
    some (r_20))))
    else (some ((-12 : Int32))) := rfl

set_option maxHeartbeats 4000000 in
set_option maxRecDepth 20000 in
theorem sf_X9_taken_58 {N : Nat} (hN : 700 ≤ N)  : ∀ (n : Nat) (x1 : Int32) (x2 : Int32) (x3 : Int32) (v_bodyKind : List Int32) (v_shelf : List Int32), v_bodyKind.length = 50 → v_shelf.length = 6 → 0 ≤ x1.toInt → x1.toInt ≤ 5 → 0 ≤ (mm_ig v_shelf x1).toInt → (mm_ig v_shelf x1).toInt < 50 → (min x3.toInt 8).toNat < n → wp (fX9_taken_58 N n x1 x2 x3 v_bodyKind v_shelf) (fun (r : Int32) => True) := by
  intro n
  induction n with
  | zero =>
    intro x1 x2 x3 v_bodyKind v_shelf h_0 h_1 h_2 h_3 h_4 h_5 hm
    exact absurd hm (by omega)
  | succ n ih =>
    intro x1 x2 x3 v_bodyKind v_shelf h_0 h_1 h_2 h_3 h_4 h_5 hm
    refine wp_of (uf_X9_taken_58 _ _ _ _ _ _ _) ?_
    refine wp_if (fun c_1 => ?_) (fun c_1 => ?_)
    ·
      have dc_1 := i_eq c_1
      refine wp_of (uf_X9_taken_75 _ _ _ _ _ _) ?_
      refine wp_ifp c_1 ?_
      refine wp_ck (i_inb (by omega) (by omega)) ?_
      refine wp_bd1 (sf_X9_kindOf hN h_0 h_4 h_5) (fun r_20 _ => ?_)
      exact wp_so1 trivial
    ·
      have dc_1 := i_ne c_1
      have n_3 : (0 : Int32).toInt = 0 := by decide
      refine wp_if (fun c_2 => ?_) (fun c_2 => ?_)
      ·
        have dc_2 := i_le c_2
        refine wp_of (uf_X9_taken_75 _ _ _ _ _ _) ?_
        refine wp_ifn c_1 ?_
        exact wp_so1 trivial
      ·
        have dc_2 := i_nle c_2
        refine wp_bd1 (sf_X9_above hN ) (fun r_16 ⟨q_4, q_5, q_6⟩ => ?_)
        exact ih _ _ _ _ _ h_0 h_1 h_2 h_3 h_4 h_5 (by omega)

theorem uf_X9_taken (N : Nat) (x1 : Int32) (x2 : Int32) (v_bodyKind : List Int32) (v_shelf : List Int32) : fX9_taken N x1 x2 v_bodyKind v_shelf = mm_bd1 (fX9_isShelf N x1) (fun (r_1 : Bool) =>
    if r_1 = false then
    (some ((-1 : Int32)))
    else (mm_bd1 (fX9_within N ((x2).toInt64) (0 : Int64) (7 : Int64)) (fun (r_4 : Bool) =>
    if r_4 = false then
    (some ((-1 : Int32)))
    else (mm_ck (mm_inb x1 v_shelf.length) (if 0 ≤ (mm_ig v_shelf x1) then
    (mm_ck (mm_inb x1 v_shelf.length) (if (mm_ig v_shelf x1) < (50 : Int32) then
    (mm_ck (mm_inb x1 v_shelf.length) (mm_bd1 (fX9_kindOf N (mm_ig v_shelf x1) v_bodyKind) (fun (r_12 : Int32) =>
    fX9_taken_58 N N x1 x2 r_12 v_bodyKind v_shelf)))
    else (some ((-12 : Int32)))))
    else (some ((-11 : Int32)))))))) := rfl

set_option maxHeartbeats 4000000 in
set_option maxRecDepth 20000 in
theorem sf_X9_taken {N : Nat} (hN : 700 ≤ N) {x1 : Int32} {x2 : Int32} {v_bodyKind : List Int32} {v_shelf : List Int32} (h_0 : v_bodyKind.length = 50) (h_1 : v_shelf.length = 6) : wp (fX9_taken N x1 x2 v_bodyKind v_shelf) (fun (r : Int32) => True) := by
  refine wp_of (uf_X9_taken _ _ _ _ _) ?_
  refine wp_bd1 (sf_X9_isShelf hN ) (fun r_1 q_1 => ?_)
  rcases q_1 with ⟨rfl, q_1⟩ | ⟨rfl, q_1⟩
  ·
    refine wp_ifn (by decide) ?_
    have n_2 := i_64 x2
    have n_3 : (0 : Int64).toInt = 0 := by decide
    have n_4 : (7 : Int64).toInt = 7 := by decide
    refine wp_bd1 (sf_X9_within hN ) (fun r_4 q_5 => ?_)
    rcases q_5 with ⟨rfl, q_5⟩ | ⟨rfl, q_5⟩
    ·
      refine wp_ifn (by decide) ?_
      refine wp_ck (i_inb (by omega) (by omega)) ?_
      have n_7 : (0 : Int32).toInt = 0 := by decide
      refine wp_if (fun c_6 => ?_) (fun c_6 => ?_)
      ·
        have dc_6 := i_le c_6
        refine wp_ck (i_inb (by omega) (by omega)) ?_
        have n_9 : (50 : Int32).toInt = 50 := by decide
        refine wp_if (fun c_8 => ?_) (fun c_8 => ?_)
        ·
          have dc_8 := i_lt c_8
          refine wp_ck (i_inb (by omega) (by omega)) ?_
          refine wp_bd1 (sf_X9_kindOf hN h_0 (by omega) (by omega)) (fun r_12 _ => ?_)
          exact sf_X9_taken_58 hN _ _ _ _ _ _ h_0 h_1 (by omega) (by omega) (by omega) (by omega) (by omega)
        ·
          have dc_8 := i_nlt c_8
          exact wp_so1 trivial
      ·
        have dc_6 := i_nle c_6
        exact wp_so1 trivial
    ·
      refine wp_ifp (by decide) ?_
      exact wp_so1 trivial
  ·
    refine wp_ifp (by decide) ?_
    exact wp_so1 trivial

theorem uf_X9_count (N : Nat) (x1 : Int32) (v_done : Int32) (v_rowsOf : Int32) (v_columnsOf : Int32) (v_tapeMany : Int32) (v_planned : Int32) (v_bodies : Int32) (v_ran : Int32) : fX9_count N x1 v_done v_rowsOf v_columnsOf v_tapeMany v_planned v_bodies v_ran = if x1 = (0 : Int32) then
    (mm_bd1 (fX9_fields N v_rowsOf v_columnsOf) (fun (r_2 : Int32) =>
    some (r_2)))
    else (if x1 = (1 : Int32) then
    (some (v_planned))
    else (if x1 = (2 : Int32) then
    (some (v_tapeMany))
    else (if x1 = (3 : Int32) then
    (some (v_done))
    else (if x1 = (4 : Int32) then
    (some (v_bodies))
    else (if x1 = (5 : Int32) then
    (some (v_ran))
    else (some ((-1 : Int32)))))))) := rfl

set_option maxHeartbeats 4000000 in
set_option maxRecDepth 20000 in
theorem sf_X9_count {N : Nat} (hN : 700 ≤ N) {x1 : Int32} {v_done : Int32} {v_rowsOf : Int32} {v_columnsOf : Int32} {v_tapeMany : Int32} {v_planned : Int32} {v_bodies : Int32} {v_ran : Int32} (h_0 : 0 ≤ v_done.toInt) (h_1 : v_done.toInt ≤ 40) (h_2 : 1 ≤ v_rowsOf.toInt) (h_3 : v_rowsOf.toInt ≤ 4) (h_4 : 1 ≤ v_columnsOf.toInt) (h_5 : v_columnsOf.toInt ≤ 8) (h_6 : 0 ≤ v_tapeMany.toInt) (h_7 : v_tapeMany.toInt ≤ 120) (h_8 : 0 ≤ v_planned.toInt) (h_9 : v_planned.toInt ≤ 12) (h_10 : 0 ≤ v_bodies.toInt) (h_11 : v_bodies.toInt ≤ 50) : wp (fX9_count N x1 v_done v_rowsOf v_columnsOf v_tapeMany v_planned v_bodies v_ran) (fun (r : Int32) => True) := by
  refine wp_of (uf_X9_count _ _ _ _ _ _ _ _ _) ?_
  have n_2 : (0 : Int32).toInt = 0 := by decide
  refine wp_if (fun c_1 => ?_) (fun c_1 => ?_)
  ·
    have dc_1 := i_eq c_1
    refine wp_bd1 (sf_X9_fields hN h_2 h_3 h_4 h_5) (fun r_2 ⟨q_3, q_4, q_5⟩ => ?_)
    exact wp_so1 trivial
  ·
    have dc_1 := i_ne c_1
    have n_7 : (1 : Int32).toInt = 1 := by decide
    refine wp_if (fun c_6 => ?_) (fun c_6 => ?_)
    ·
      have dc_6 := i_eq c_6
      exact wp_so1 trivial
    ·
      have dc_6 := i_ne c_6
      have n_9 : (2 : Int32).toInt = 2 := by decide
      refine wp_if (fun c_8 => ?_) (fun c_8 => ?_)
      ·
        have dc_8 := i_eq c_8
        exact wp_so1 trivial
      ·
        have dc_8 := i_ne c_8
        have n_11 : (3 : Int32).toInt = 3 := by decide
        refine wp_if (fun c_10 => ?_) (fun c_10 => ?_)
        ·
          have dc_10 := i_eq c_10
          exact wp_so1 trivial
        ·
          have dc_10 := i_ne c_10
          have n_13 : (4 : Int32).toInt = 4 := by decide
          refine wp_if (fun c_12 => ?_) (fun c_12 => ?_)
          ·
            have dc_12 := i_eq c_12
            exact wp_so1 trivial
          ·
            have dc_12 := i_ne c_12
            have n_15 : (5 : Int32).toInt = 5 := by decide
            refine wp_if (fun c_14 => ?_) (fun c_14 => ?_)
            ·
              have dc_14 := i_eq c_14
              exact wp_so1 trivial
            ·
              have dc_14 := i_ne c_14
              exact wp_so1 trivial

theorem uf_X9_plans_110 (N : Nat) (k_69 : Int32 → Int32 → Int32 → Int32 → Int32 → Int32 → List Int32 → List Int32 → List Int32 → List Int32 → List Int64 → Option (Int32 × Int32 × List Int32 × List Int32)) (x1 : Int32) (x2 : Int32) (x3 : Int32) (x4 : Int32) (v_planned : Int32) (v_planLine : List Int32) (v_planWay : List Int32) (v_shelf : List Int32) (v_many : List Int32) (v_items : List Int64) : fX9_plans_110 N k_69 x1 x2 x3 x4 v_planned v_planLine v_planWay v_shelf v_many v_items = fX9_plans_111 N k_69 x1 x2 x3 x4 (0 : Int32) v_planned v_planLine v_planWay v_shelf v_many v_items := rfl

theorem uf_X9_plans_111 (N : Nat) (k_69 : Int32 → Int32 → Int32 → Int32 → Int32 → Int32 → List Int32 → List Int32 → List Int32 → List Int32 → List Int64 → Option (Int32 × Int32 × List Int32 × List Int32)) (x1 : Int32) (x2 : Int32) (x3 : Int32) (x4 : Int32) (s0 : Int32) (v_planned : Int32) (v_planLine : List Int32) (v_planWay : List Int32) (v_shelf : List Int32) (v_many : List Int32) (v_items : List Int64) : fX9_plans_111 N k_69 x1 x2 x3 x4 s0 v_planned v_planLine v_planWay v_shelf v_many v_items = mm_nm (((((60 : Int32) * x1) + x2) + ((2 : Int32) * x4))) (fun (y_19 : Int32) =>
    if s0 = 0 then
    (fX9_plans_171 N k_69 x1 x2 x3 x4 y_19 v_planned v_planLine v_planWay v_shelf v_many v_items)
    else (mm_ck (mm_inb y_19 v_items.length) (mm_bd1 (fX9_within N (mm_lg v_items y_19) (1 : Int64) (7 : Int64)) (fun (r_22 : Bool) =>
    if r_22 = false then
    (fX9_plans_171 N k_69 x1 x2 x3 x4 y_19 v_planned v_planLine v_planWay v_shelf v_many v_items)
    else (mm_ck (mm_inb (y_19 + (1 : Int32)) v_items.length) (mm_bd1 (fX9_within N (mm_lg v_items (y_19 + (1 : Int32))) (0 : Int64) (7 : Int64)) (fun (r_26 : Bool) =>
    if r_26 = false then
    (fX9_plans_171 N k_69 x1 x2 x3 x4 y_19 v_planned v_planLine v_planWay v_shelf v_many v_items)
    else (fX9_plans_172 N k_69 x1 x2 x3 x4 y_19 (1 : Int32) v_planned v_planLine v_planWay v_shelf v_many v_items)))))))) := rfl

theorem uf_X9_plans_171 (N : Nat) (k_69 : Int32 → Int32 → Int32 → Int32 → Int32 → Int32 → List Int32 → List Int32 → List Int32 → List Int32 → List Int64 → Option (Int32 × Int32 × List Int32 × List Int32)) (x1 : Int32) (x2 : Int32) (x3 : Int32) (x4 : Int32) (x6 : Int32) (v_planned : Int32) (v_planLine : List Int32) (v_planWay : List Int32) (v_shelf : List Int32) (v_many : List Int32) (v_items : List Int64) : fX9_plans_171 N k_69 x1 x2 x3 x4 x6 v_planned v_planLine v_planWay v_shelf v_many v_items = fX9_plans_172 N k_69 x1 x2 x3 x4 x6 (0 : Int32) v_planned v_planLine v_planWay v_shelf v_many v_items := rfl

theorem uf_X9_plans_172 (N : Nat) (k_69 : Int32 → Int32 → Int32 → Int32 → Int32 → Int32 → List Int32 → List Int32 → List Int32 → List Int32 → List Int64 → Option (Int32 × Int32 × List Int32 × List Int32)) (x1 : Int32) (x2 : Int32) (x3 : Int32) (x4 : Int32) (x6 : Int32) (s0 : Int32) (v_planned : Int32) (v_planLine : List Int32) (v_planWay : List Int32) (v_shelf : List Int32) (v_many : List Int32) (v_items : List Int64) : fX9_plans_172 N k_69 x1 x2 x3 x4 x6 s0 v_planned v_planLine v_planWay v_shelf v_many v_items = if s0 = 0 then
    (fX9_plans_228 N k_69 x1 x2 x3 x4 s0 v_planned v_planLine v_planWay v_shelf v_many v_items)
    else (mm_ck (mm_inb x6 v_items.length) (mm_nm (((mm_lg v_items x6).toInt32)) (fun (y_31 : Int32) =>
    mm_ck (mm_inb v_planned v_planLine.length) (mm_nm (mm_is v_planLine v_planned y_31) (fun (l_33 : List Int32) =>
    mm_ck (mm_inb (x6 + (1 : Int32)) v_items.length) (mm_nm (((mm_lg v_items (x6 + (1 : Int32))).toInt32)) (fun (y_35 : Int32) =>
    mm_ck (mm_inb v_planned v_planWay.length) (mm_nm (mm_is v_planWay v_planned y_35) (fun (l_37 : List Int32) =>
    mm_nm ((v_planned + (1 : Int32))) (fun (y_38 : Int32) =>
    mm_nm (x4 + (1 : Int32)) (fun (y_39 : Int32) =>
    fX9_plans_228 N k_69 x1 x2 x3 y_39 s0 y_38 l_33 l_37 v_shelf v_many v_items))))))))))) := rfl

theorem uf_X9_plans_228 (N : Nat) (k_69 : Int32 → Int32 → Int32 → Int32 → Int32 → Int32 → List Int32 → List Int32 → List Int32 → List Int32 → List Int64 → Option (Int32 × Int32 × List Int32 × List Int32)) (x1 : Int32) (x2 : Int32) (x3 : Int32) (x4 : Int32) (x5 : Int32) (v_planned : Int32) (v_planLine : List Int32) (v_planWay : List Int32) (v_shelf : List Int32) (v_many : List Int32) (v_items : List Int64) : fX9_plans_228 N k_69 x1 x2 x3 x4 x5 v_planned v_planLine v_planWay v_shelf v_many v_items = k_69 x1 x2 x3 x4 x5 v_planned v_planLine v_planWay v_shelf v_many v_items := rfl

theorem uf_X9_plans_69 (N : Nat) (n : Nat) (x1 : Int32) (x2 : Int32) (x3 : Int32) (x4 : Int32) (x5 : Int32) (v_planned : Int32) (v_planLine : List Int32) (v_planWay : List Int32) (v_shelf : List Int32) (v_many : List Int32) (v_items : List Int64) : fX9_plans_69 N (n + 1) x1 x2 x3 x4 x5 v_planned v_planLine v_planWay v_shelf v_many v_items = 
    if x5 = 0 then
    (some (x4, v_planned, v_planLine, v_planWay))
    else (if x3 ≤ x4 then
    (some (x4, v_planned, v_planLine, v_planWay))
    else (mm_ck (mm_inb x1 v_many.length) (if (((mm_ig v_many x1) - (2 : Int32)) - ((2 : Int32) * x4)) < x2 then
    (fX9_plans_110 N (fX9_plans_69 N n) x1 x2 x3 x4 v_planned v_planLine v_planWay v_shelf v_many v_items)
    else (if (12 : Int32) ≤ v_planned then
    (fX9_plans_110 N (fX9_plans_69 N n) x1 x2 x3 x4 v_planned v_planLine v_planWay v_shelf v_many v_items)
    else (fX9_plans_111 N (fX9_plans_69 N n) x1 x2 x3 x4 (1 : Int32) v_planned v_planLine v_planWay v_shelf v_many v_items))))) := rfl

set_option maxHeartbeats 4000000 in
set_option maxRecDepth 20000 in
theorem sf_X9_plans_69 {N : Nat} (hN : 700 ≤ N)  : ∀ (n : Nat) (x1 : Int32) (x2 : Int32) (x3 : Int32) (x4 : Int32) (x5 : Int32) (v_planned : Int32) (v_planLine : List Int32) (v_planWay : List Int32) (v_shelf : List Int32) (v_many : List Int32) (v_items : List Int64), 0 ≤ v_planned.toInt → v_planned.toInt ≤ 12 → v_planLine.length = 12 → v_planWay.length = 12 → v_shelf.length = 6 → v_many.length = 6 → v_items.length = 360 → zn v_many 0 6 0 61 → 0 ≤ x1.toInt → x1.toInt ≤ 5 → 1 ≤ x3.toInt → x3.toInt ≤ 12 → 0 ≤ x4.toInt → x4.toInt ≤ 12 → 0 ≤ x5.toInt → x5.toInt ≤ 1 → (x5.toInt = 1 → 0 ≤ x2.toInt) → (13 - x4.toInt + x5.toInt).toNat < n → wp (fX9_plans_69 N n x1 x2 x3 x4 x5 v_planned v_planLine v_planWay v_shelf v_many v_items) (cu4 (fun (r : Int32) (wv_planned : Int32) (wv_planLine : List Int32) (wv_planWay : List Int32) => 0 ≤ wv_planned.toInt ∧ wv_planned.toInt ≤ 12 ∧ wv_planLine.length = 12 ∧ wv_planWay.length = 12)) := by
  intro n
  induction n with
  | zero =>
    intro x1 x2 x3 x4 x5 v_planned v_planLine v_planWay v_shelf v_many v_items h_0 h_1 h_2 h_3 h_4 h_5 h_6 h_7 h_8 h_9 h_10 h_11 h_12 h_13 h_14 h_15 h_16 hm
    exact absurd hm (by omega)
  | succ n ih =>
    intro x1 x2 x3 x4 x5 v_planned v_planLine v_planWay v_shelf v_many v_items h_0 h_1 h_2 h_3 h_4 h_5 h_6 h_7 h_8 h_9 h_10 h_11 h_12 h_13 h_14 h_15 h_16 hm
    have hx2 : x2.toInt < 2147483648 := Int32.toInt_lt x2
    have hy2 : -2147483648 ≤ x2.toInt := Int32.le_toInt x2
    refine wp_of (uf_X9_plans_69 _ _ _ _ _ _ _ _ _ _ _ _ _) ?_
    have n_2 : (0 : Int32).toInt = 0 := by decide
    refine wp_if (fun c_1 => ?_) (fun c_1 => ?_)
    ·
      have dc_1 := i_eq c_1
      exact wp_so4 ⟨h_0, h_1, h_2, h_3⟩
    ·
      have dc_1 := i_ne c_1
      refine wp_if (fun c_3 => ?_) (fun c_3 => ?_)
      ·
        have dc_3 := i_le c_3
        exact wp_so4 ⟨h_0, h_1, h_2, h_3⟩
      ·
        have dc_3 := i_nle c_3
        refine wp_ck (i_inb (by omega) (by omega)) ?_
        obtain ⟨e_5, e1_5⟩ := zn_get h_7 (i := x1) (by omega) (by omega) (by omega) (by omega)
        have n_6 : (2 : Int32).toInt = 2 := by decide
        generalize hz_z : ((mm_ig v_many x1) - (2 : Int32)) = z
        have e_7 := i_subE hz_z (by omega) (by omega)
        generalize hz_z__8 : ((2 : Int32) * x4) = z__8
        have e_9 := i_mulLE (c := 2) (by decide) hz_z__8 (by omega) (by omega)
        generalize hz_z__10 : (z - z__8) = z__10
        have e_11 := i_subE hz_z__10 (by omega) (by omega)
        refine wp_if (fun c_4 => ?_) (fun c_4 => ?_)
        ·
          have dc_4 := i_lt c_4
          refine wp_of (uf_X9_plans_110 _ _ _ _ _ _ _ _ _ _ _ _) ?_
          refine wp_of (uf_X9_plans_111 _ _ _ _ _ _ _ _ _ _ _ _ _) ?_
          have n_12 : (60 : Int32).toInt = 60 := by decide
          generalize hz_z__13 : ((60 : Int32) * x1) = z__13
          have e_14 := i_mulLE (c := 60) (by decide) hz_z__13 (by omega) (by omega)
          generalize hz_z__15 : (z__13 + x2) = z__15
          first | have e_16 := i_addE hz_z__15 (by omega) (by omega) | obtain ⟨k_16, e_16, e1_16, e2_16⟩ := i_addY hz_z__15
          generalize hz_z__17 : ((2 : Int32) * x4) = z__17
          have e_18 := i_mulLE (c := 2) (by decide) hz_z__17 (by omega) (by omega)
          refine wp_nm (fun y_19 h_y_19 => ?_)
          first | have e_19 := i_addE h_y_19.symm (by omega) (by omega) | obtain ⟨k_19, e_19, e1_19, e2_19⟩ := i_addY h_y_19.symm
          refine wp_ifp (by decide) ?_
          refine wp_of (uf_X9_plans_171 _ _ _ _ _ _ _ _ _ _ _ _ _) ?_
          refine wp_of (uf_X9_plans_172 _ _ _ _ _ _ _ _ _ _ _ _ _ _) ?_
          refine wp_ifp (by decide) ?_
          refine wp_of (uf_X9_plans_228 _ _ _ _ _ _ _ _ _ _ _ _ _) ?_
          exact ih _ _ _ _ _ _ _ _ _ _ _ h_0 h_1 h_2 h_3 h_4 h_5 h_6 h_7 h_8 h_9 h_10 h_11 h_12 h_13 (by omega) (by omega) (by omega) (by omega)
        ·
          have dc_4 := i_nlt c_4
          have n_21 : (12 : Int32).toInt = 12 := by decide
          refine wp_if (fun c_20 => ?_) (fun c_20 => ?_)
          ·
            have dc_20 := i_le c_20
            refine wp_of (uf_X9_plans_110 _ _ _ _ _ _ _ _ _ _ _ _) ?_
            refine wp_of (uf_X9_plans_111 _ _ _ _ _ _ _ _ _ _ _ _ _) ?_
            have n_23 : (60 : Int32).toInt = 60 := by decide
            generalize hz_z__24 : ((60 : Int32) * x1) = z__24
            have e_25 := i_mulLE (c := 60) (by decide) hz_z__24 (by omega) (by omega)
            generalize hz_z__26 : (z__24 + x2) = z__26
            first | have e_27 := i_addE hz_z__26 (by omega) (by omega) | obtain ⟨k_27, e_27, e1_27, e2_27⟩ := i_addY hz_z__26
            generalize hz_z__28 : ((2 : Int32) * x4) = z__28
            have e_29 := i_mulLE (c := 2) (by decide) hz_z__28 (by omega) (by omega)
            refine wp_nm (fun y_19__22 h_y_19__22 => ?_)
            first | have e_30 := i_addE h_y_19__22.symm (by omega) (by omega) | obtain ⟨k_30, e_30, e1_30, e2_30⟩ := i_addY h_y_19__22.symm
            refine wp_ifp (by decide) ?_
            refine wp_of (uf_X9_plans_171 _ _ _ _ _ _ _ _ _ _ _ _ _) ?_
            refine wp_of (uf_X9_plans_172 _ _ _ _ _ _ _ _ _ _ _ _ _ _) ?_
            refine wp_ifp (by decide) ?_
            refine wp_of (uf_X9_plans_228 _ _ _ _ _ _ _ _ _ _ _ _ _) ?_
            exact ih _ _ _ _ _ _ _ _ _ _ _ h_0 h_1 h_2 h_3 h_4 h_5 h_6 h_7 h_8 h_9 h_10 h_11 h_12 h_13 (by omega) (by omega) (by omega) (by omega)
          ·
            have dc_20 := i_nle c_20
            refine wp_of (uf_X9_plans_111 _ _ _ _ _ _ _ _ _ _ _ _ _) ?_
            have n_32 : (60 : Int32).toInt = 60 := by decide
            generalize hz_z__33 : ((60 : Int32) * x1) = z__33
            have e_34 := i_mulLE (c := 60) (by decide) hz_z__33 (by omega) (by omega)
            generalize hz_z__35 : (z__33 + x2) = z__35
            first | have e_36 := i_addE hz_z__35 (by omega) (by omega) | obtain ⟨k_36, e_36, e1_36, e2_36⟩ := i_addY hz_z__35
            generalize hz_z__37 : ((2 : Int32) * x4) = z__37
            have e_38 := i_mulLE (c := 2) (by decide) hz_z__37 (by omega) (by omega)
            refine wp_nm (fun y_19__31 h_y_19__31 => ?_)
            first | have e_39 := i_addE h_y_19__31.symm (by omega) (by omega) | obtain ⟨k_39, e_39, e1_39, e2_39⟩ := i_addY h_y_19__31.symm
            refine wp_ifn (by decide) ?_
            refine wp_ck (i_inb (by omega) (by omega)) ?_
            have n_40 : (1 : Int64).toInt = 1 := by decide
            have n_41 : (7 : Int64).toInt = 7 := by decide
            refine wp_bd1 (sf_X9_within hN ) (fun r_22 q_42 => ?_)
            rcases q_42 with ⟨rfl, q_42⟩ | ⟨rfl, q_42⟩
            ·
              refine wp_ifn (by decide) ?_
              have n_43 : (1 : Int32).toInt = 1 := by decide
              generalize hz_z__44 : (y_19__31 + (1 : Int32)) = z__44
              first | have e_45 := i_addE hz_z__44 (by omega) (by omega) | obtain ⟨k_45, e_45, e1_45, e2_45⟩ := i_addY hz_z__44
              refine wp_ck (i_inb (by omega) (by omega)) ?_
              have n_46 : (0 : Int64).toInt = 0 := by decide
              refine wp_bd1 (sf_X9_within hN ) (fun r_26 q_47 => ?_)
              rcases q_47 with ⟨rfl, q_47⟩ | ⟨rfl, q_47⟩
              ·
                refine wp_ifn (by decide) ?_
                refine wp_of (uf_X9_plans_172 _ _ _ _ _ _ _ _ _ _ _ _ _ _) ?_
                refine wp_ifn (by decide) ?_
                refine wp_ck (i_inb (by omega) (by omega)) ?_
                refine wp_nm (fun y_31 _ => ?_)
                refine wp_ck (i_inb (by omega) (by omega)) ?_
                refine wp_nm (fun l_33 h_l_33 => ?_)
                have nl_l_33 : l_33.length = 12 := by rw [h_l_33, is_len]; assumption
                generalize hz_z__48 : (y_19__31 + (1 : Int32)) = z__48
                first | have e_49 := i_addE hz_z__48 (by omega) (by omega) | obtain ⟨k_49, e_49, e1_49, e2_49⟩ := i_addY hz_z__48
                refine wp_ck (i_inb (by omega) (by omega)) ?_
                refine wp_nm (fun y_35 _ => ?_)
                refine wp_ck (i_inb (by omega) (by omega)) ?_
                refine wp_nm (fun l_37 h_l_37 => ?_)
                have nl_l_37 : l_37.length = 12 := by rw [h_l_37, is_len]; assumption
                refine wp_nm (fun y_38 h_y_38 => ?_)
                have e_50 := i_addE h_y_38.symm (by omega) (by omega)
                refine wp_nm (fun y_39 h_y_39 => ?_)
                have e_51 := i_addE h_y_39.symm (by omega) (by omega)
                refine wp_of (uf_X9_plans_228 _ _ _ _ _ _ _ _ _ _ _ _ _) ?_
                exact ih _ _ _ _ _ _ _ _ _ _ _ (by omega) (by omega) nl_l_33 nl_l_37 h_4 h_5 h_6 h_7 h_8 h_9 h_10 h_11 (by omega) (by omega) (by omega) (by omega) (by omega) (by omega)
              ·
                refine wp_ifp (by decide) ?_
                refine wp_of (uf_X9_plans_171 _ _ _ _ _ _ _ _ _ _ _ _ _) ?_
                refine wp_of (uf_X9_plans_172 _ _ _ _ _ _ _ _ _ _ _ _ _ _) ?_
                refine wp_ifp (by decide) ?_
                refine wp_of (uf_X9_plans_228 _ _ _ _ _ _ _ _ _ _ _ _ _) ?_
                exact ih _ _ _ _ _ _ _ _ _ _ _ h_0 h_1 h_2 h_3 h_4 h_5 h_6 h_7 h_8 h_9 h_10 h_11 h_12 h_13 (by omega) (by omega) (by omega) (by omega)
            ·
              refine wp_ifp (by decide) ?_
              refine wp_of (uf_X9_plans_171 _ _ _ _ _ _ _ _ _ _ _ _ _) ?_
              refine wp_of (uf_X9_plans_172 _ _ _ _ _ _ _ _ _ _ _ _ _ _) ?_
              refine wp_ifp (by decide) ?_
              refine wp_of (uf_X9_plans_228 _ _ _ _ _ _ _ _ _ _ _ _ _) ?_
              exact ih _ _ _ _ _ _ _ _ _ _ _ h_0 h_1 h_2 h_3 h_4 h_5 h_6 h_7 h_8 h_9 h_10 h_11 h_12 h_13 (by omega) (by omega) (by omega) (by omega)

theorem uf_X9_plans (N : Nat) (x1 : Int32) (x2 : Int32) (x3 : Int32) (v_planned : Int32) (v_planLine : List Int32) (v_planWay : List Int32) (v_shelf : List Int32) (v_many : List Int32) (v_items : List Int64) : fX9_plans N x1 x2 x3 v_planned v_planLine v_planWay v_shelf v_many v_items = mm_bd1 (fX9_isShelf N x1) (fun (r_1 : Bool) =>
    if r_1 = false then
    (some ((-1 : Int32), v_planned, v_planLine, v_planWay))
    else (mm_bd1 (fX9_within N ((x3).toInt64) (1 : Int64) (12 : Int64)) (fun (r_4 : Bool) =>
    if r_4 = false then
    (some ((-1 : Int32), v_planned, v_planLine, v_planWay))
    else (mm_ck (mm_inb x1 v_shelf.length) (if (mm_ig v_shelf x1) < 0 then
    (fX9_plans_44 N x1 x2 x3 v_planned v_planLine v_planWay v_shelf v_many v_items)
    else (mm_ck (mm_inb x1 v_shelf.length) (if (mm_ig v_shelf x1) = (50 : Int32) then
    (fX9_plans_44 N x1 x2 x3 v_planned v_planLine v_planWay v_shelf v_many v_items)
    else (some ((-12 : Int32), v_planned, v_planLine, v_planWay))))))))) := rfl

theorem uf_X9_plans_44 (N : Nat) (x1 : Int32) (x2 : Int32) (x3 : Int32) (v_planned : Int32) (v_planLine : List Int32) (v_planWay : List Int32) (v_shelf : List Int32) (v_many : List Int32) (v_items : List Int64) : fX9_plans_44 N x1 x2 x3 v_planned v_planLine v_planWay v_shelf v_many v_items = mm_ck (mm_inb x1 v_shelf.length) (if (mm_ig v_shelf x1) = (50 : Int32) then
    (if x2 < 0 then
    (fX9_plans_66 N x1 x2 x3 (0 : Int32) v_planned v_planLine v_planWay v_shelf v_many v_items)
    else (fX9_plans_67 N x1 x2 x3 (0 : Int32) (1 : Int32) v_planned v_planLine v_planWay v_shelf v_many v_items))
    else (fX9_plans_66 N x1 x2 x3 (0 : Int32) v_planned v_planLine v_planWay v_shelf v_many v_items)) := rfl

theorem uf_X9_plans_66 (N : Nat) (x1 : Int32) (x2 : Int32) (x3 : Int32) (x4 : Int32) (v_planned : Int32) (v_planLine : List Int32) (v_planWay : List Int32) (v_shelf : List Int32) (v_many : List Int32) (v_items : List Int64) : fX9_plans_66 N x1 x2 x3 x4 v_planned v_planLine v_planWay v_shelf v_many v_items = fX9_plans_67 N x1 x2 x3 x4 (0 : Int32) v_planned v_planLine v_planWay v_shelf v_many v_items := rfl

theorem uf_X9_plans_67 (N : Nat) (x1 : Int32) (x2 : Int32) (x3 : Int32) (x4 : Int32) (s0 : Int32) (v_planned : Int32) (v_planLine : List Int32) (v_planWay : List Int32) (v_shelf : List Int32) (v_many : List Int32) (v_items : List Int64) : fX9_plans_67 N x1 x2 x3 x4 s0 v_planned v_planLine v_planWay v_shelf v_many v_items = fX9_plans_69 N N x1 x2 x3 x4 s0 v_planned v_planLine v_planWay v_shelf v_many v_items := rfl

set_option maxHeartbeats 4000000 in
set_option maxRecDepth 20000 in
theorem sf_X9_plans {N : Nat} (hN : 700 ≤ N) {x1 : Int32} {x2 : Int32} {x3 : Int32} {v_planned : Int32} {v_planLine : List Int32} {v_planWay : List Int32} {v_shelf : List Int32} {v_many : List Int32} {v_items : List Int64} (h_0 : 0 ≤ v_planned.toInt) (h_1 : v_planned.toInt ≤ 12) (h_2 : v_planLine.length = 12) (h_3 : v_planWay.length = 12) (h_4 : v_shelf.length = 6) (h_5 : v_many.length = 6) (h_6 : v_items.length = 360) (h_7 : zn v_many 0 6 0 61) : wp (fX9_plans N x1 x2 x3 v_planned v_planLine v_planWay v_shelf v_many v_items) (cu4 (fun (r : Int32) (wv_planned : Int32) (wv_planLine : List Int32) (wv_planWay : List Int32) => 0 ≤ wv_planned.toInt ∧ wv_planned.toInt ≤ 12 ∧ wv_planLine.length = 12 ∧ wv_planWay.length = 12)) := by
  refine wp_of (uf_X9_plans _ _ _ _ _ _ _ _ _ _) ?_
  refine wp_bd1 (sf_X9_isShelf hN ) (fun r_1 q_1 => ?_)
  rcases q_1 with ⟨rfl, q_1⟩ | ⟨rfl, q_1⟩
  ·
    refine wp_ifn (by decide) ?_
    have n_2 := i_64 x3
    have n_3 : (1 : Int64).toInt = 1 := by decide
    have n_4 : (12 : Int64).toInt = 12 := by decide
    refine wp_bd1 (sf_X9_within hN ) (fun r_4 q_5 => ?_)
    rcases q_5 with ⟨rfl, q_5⟩ | ⟨rfl, q_5⟩
    ·
      refine wp_ifn (by decide) ?_
      refine wp_ck (i_inb (by omega) (by omega)) ?_
      have n_7 : (0 : Int32).toInt = 0 := by decide
      refine wp_if (fun c_6 => ?_) (fun c_6 => ?_)
      ·
        have dc_6 := i_lt c_6
        refine wp_of (uf_X9_plans_44 _ _ _ _ _ _ _ _ _ _) ?_
        refine wp_ck (i_inb (by omega) (by omega)) ?_
        have n_9 : (50 : Int32).toInt = 50 := by decide
        refine wp_if (fun c_8 => ?_) (fun c_8 => ?_)
        ·
          have dc_8 := i_eq c_8
          refine wp_if (fun c_10 => ?_) (fun c_10 => ?_)
          ·
            have dc_10 := i_lt c_10
            refine wp_of (uf_X9_plans_66 _ _ _ _ _ _ _ _ _ _ _) ?_
            refine wp_of (uf_X9_plans_67 _ _ _ _ _ _ _ _ _ _ _ _) ?_
            exact sf_X9_plans_69 hN _ _ _ _ _ _ _ _ _ _ _ _ h_0 h_1 h_2 h_3 h_4 h_5 h_6 h_7 (by omega) (by omega) (by omega) (by omega) (by omega) (by omega) (by omega) (by omega) (by omega) (by omega)
          ·
            have dc_10 := i_nlt c_10
            refine wp_of (uf_X9_plans_67 _ _ _ _ _ _ _ _ _ _ _ _) ?_
            have n_11 : (1 : Int32).toInt = 1 := by decide
            exact sf_X9_plans_69 hN _ _ _ _ _ _ _ _ _ _ _ _ h_0 h_1 h_2 h_3 h_4 h_5 h_6 h_7 (by omega) (by omega) (by omega) (by omega) (by omega) (by omega) (by omega) (by omega) (by omega) (by omega)
        ·
          have dc_8 := i_ne c_8
          refine wp_of (uf_X9_plans_66 _ _ _ _ _ _ _ _ _ _ _) ?_
          refine wp_of (uf_X9_plans_67 _ _ _ _ _ _ _ _ _ _ _ _) ?_
          exact sf_X9_plans_69 hN _ _ _ _ _ _ _ _ _ _ _ _ h_0 h_1 h_2 h_3 h_4 h_5 h_6 h_7 (by omega) (by omega) (by omega) (by omega) (by omega) (by omega) (by omega) (by omega) (by omega) (by omega)
      ·
        have dc_6 := i_nlt c_6
        refine wp_ck (i_inb (by omega) (by omega)) ?_
        have n_13 : (50 : Int32).toInt = 50 := by decide
        refine wp_if (fun c_12 => ?_) (fun c_12 => ?_)
        ·
          have dc_12 := i_eq c_12
          refine wp_of (uf_X9_plans_44 _ _ _ _ _ _ _ _ _ _) ?_
          refine wp_ck (i_inb (by omega) (by omega)) ?_
          refine wp_ifp c_12 ?_
          refine wp_if (fun c_14 => ?_) (fun c_14 => ?_)
          ·
            have dc_14 := i_lt c_14
            refine wp_of (uf_X9_plans_66 _ _ _ _ _ _ _ _ _ _ _) ?_
            refine wp_of (uf_X9_plans_67 _ _ _ _ _ _ _ _ _ _ _ _) ?_
            exact sf_X9_plans_69 hN _ _ _ _ _ _ _ _ _ _ _ _ h_0 h_1 h_2 h_3 h_4 h_5 h_6 h_7 (by omega) (by omega) (by omega) (by omega) (by omega) (by omega) (by omega) (by omega) (by omega) (by omega)
          ·
            have dc_14 := i_nlt c_14
            refine wp_of (uf_X9_plans_67 _ _ _ _ _ _ _ _ _ _ _ _) ?_
            have n_15 : (1 : Int32).toInt = 1 := by decide
            exact sf_X9_plans_69 hN _ _ _ _ _ _ _ _ _ _ _ _ h_0 h_1 h_2 h_3 h_4 h_5 h_6 h_7 (by omega) (by omega) (by omega) (by omega) (by omega) (by omega) (by omega) (by omega) (by omega) (by omega)
        ·
          have dc_12 := i_ne c_12
          exact wp_so4 ⟨h_0, h_1, h_2, h_3⟩
    ·
      refine wp_ifp (by decide) ?_
      exact wp_so4 ⟨h_0, h_1, h_2, h_3⟩
  ·
    refine wp_ifp (by decide) ?_
    exact wp_so4 ⟨h_0, h_1, h_2, h_3⟩
