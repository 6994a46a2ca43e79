/-! safe -/
theorem uf_J7_fill_53178_5 (N : Nat) (n : Nat) (x1 : Int32) (x2 : Int32) (x3 : Int32) (p0_row : List Int32) : fJ7_fill_53178_5 N (n + 1) x1 x2 x3 p0_row = 
    if x3 ≤ x2 then
    (some (p0_row))
    else (mm_ck (mm_inb x2 p0_row.length) (mm_nm (mm_is p0_row x2 x1) (fun (l_4 : List Int32) =>
    mm_nm (x2 + (1 : Int32)) (fun (y_5 : Int32) =>
    fJ7_fill_53178_5 N n x1 y_5 x3 l_4)))) := rfl

theorem uf_J7_fill_53178 (N : Nat) (x1 : Int32) (p0_row : List Int32) : fJ7_fill_53178 N x1 p0_row = mm_nm ((Int32.ofNat p0_row.length)) (fun (y_1 : Int32) =>
    fJ7_fill_53178_5 N N x1 (0 : Int32) y_1 p0_row) := rfl

theorem uf_J7_fill_d0a16_6 (N : Nat) (n : Nat) (x1 : Int64) (x3 : Int32) (x4 : Int32) (p0_row : List Int64) : fJ7_fill_d0a16_6 N (n + 1) x1 x3 x4 p0_row = 
    if x4 ≤ x3 then
    (some (p0_row))
    else (mm_ck (mm_inb x3 p0_row.length) (mm_nm (mm_ls p0_row x3 x1) (fun (l_4 : List Int64) =>
    mm_nm (x3 + (1 : Int32)) (fun (y_5 : Int32) =>
    fJ7_fill_d0a16_6 N n x1 y_5 x4 l_4)))) := rfl

theorem uf_J7_fill_d0a16 (N : Nat) (x1 : Int64) (p0_row : List Int64) : fJ7_fill_d0a16 N x1 p0_row = mm_nm ((Int32.ofNat p0_row.length)) (fun (y_1 : Int32) =>
    fJ7_fill_d0a16_6 N N x1 (0 : Int32) y_1 p0_row) := rfl


theorem zn_above : zn mm_ABOVE 0 8 (-1) 8 := zn_len (by decide) 0
theorem zn_start : zn mm_START 0 9 0 681 := zn_len (by decide) 0
theorem zn_own : zn mm_OWN 0 32 0 82 := zn_len (by decide) 0
theorem i_ofn {n : Nat} (h : n ≤ 1000) : (Int32.ofNat n).toInt = n := by
  rw [Int32.toInt_ofNat']
  show (n : Int).bmod 4294967296 = n
  exact Int.bmod_eq_of_le (by omega) (by omega)
theorem sf_J7_fill_53178_5 {N : Nat} : ∀ (n : Nat) (x1 x2 x3 : Int32) (p0_row : List Int32), 0 ≤ x2.toInt → x3.toInt ≤ p0_row.length → (x3.toInt - x2.toInt).toNat < n → wp (fJ7_fill_53178_5 N n x1 x2 x3 p0_row) (fun r => r.length = p0_row.length) := by
  intro n
  induction n with
  | zero =>
    intro x1 x2 x3 p0_row h0 h1 hm
    exact absurd hm (by omega)
  | succ n ih =>
    intro x1 x2 x3 p0_row h0 h1 hm
    rw [uf_J7_fill_53178_5]
    refine wp_if (fun c => ?_) (fun c => ?_)
    · exact wp_so1 rfl
    · have c := i_nle c
      have hx3 := Int32.toInt_lt x3
      refine wp_ck (i_inb (by omega) (by omega)) ?_
      refine wp_nm (fun l hl => ?_)
      have nl : l.length = p0_row.length := by rw [hl, is_len]
      have n1 : (1 : Int32).toInt = 1 := by decide
      obtain ⟨k, e1, e2, e3⟩ := i_addW x2 (1 : Int32)
      refine wp_nm (fun y hy => ?_)
      have ty : y.toInt = (x2 + (1 : Int32)).toInt := by rw [hy]
      exact wp_mono (ih x1 y x3 l (by omega) (by omega) (by omega)) (fun r q => by rw [q, nl])
theorem sf_J7_fill_53178 {N : Nat} (hN : 700 ≤ N) {x1 : Int32} {p0_row : List Int32} (h : p0_row.length ≤ 1000) (hk : p0_row.length < N) : wp (fJ7_fill_53178 N x1 p0_row) (fun (wp0_row : List Int32) => wp0_row.length = p0_row.length) := by
  rw [uf_J7_fill_53178]
  have e := i_ofn h
  refine wp_nm (fun y hy => ?_)
  have ty : y.toInt = p0_row.length := by rw [hy, e]
  have n0 : (0 : Int32).toInt = 0 := by decide
  exact sf_J7_fill_53178_5 N x1 0 y p0_row (by omega) (by omega) (by omega)
theorem sf_J7_fill_d0a16_6 {N : Nat} : ∀ (n : Nat) (x1 : Int64) (x3 x4 : Int32) (p0_row : List Int64), 0 ≤ x3.toInt → x4.toInt ≤ p0_row.length → (x4.toInt - x3.toInt).toNat < n → wp (fJ7_fill_d0a16_6 N n x1 x3 x4 p0_row) (fun r => r.length = p0_row.length) := by
  intro n
  induction n with
  | zero =>
    intro x1 x2 x3 p0_row h0 h1 hm
    exact absurd hm (by omega)
  | succ n ih =>
    intro x1 x2 x3 p0_row h0 h1 hm
    rw [uf_J7_fill_d0a16_6]
    refine wp_if (fun c => ?_) (fun c => ?_)
    · exact wp_so1 rfl
    · have c := i_nle c
      have hx3 := Int32.toInt_lt x3
      refine wp_ck (i_inb (by omega) (by omega)) ?_
      refine wp_nm (fun l hl => ?_)
      have nl : l.length = p0_row.length := by rw [hl, ls_len]
      have n1 : (1 : Int32).toInt = 1 := by decide
      obtain ⟨k, e1, e2, e3⟩ := i_addW x2 (1 : Int32)
      refine wp_nm (fun y hy => ?_)
      have ty : y.toInt = (x2 + (1 : Int32)).toInt := by rw [hy]
      exact wp_mono (ih x1 y x3 l (by omega) (by omega) (by omega)) (fun r q => by rw [q, nl])
theorem sf_J7_fill_d0a16 {N : Nat} (hN : 700 ≤ N) {x1 : Int64} {p0_row : List Int64} (h : p0_row.length ≤ 1000) (hk : p0_row.length < N) : wp (fJ7_fill_d0a16 N x1 p0_row) (fun (wp0_row : List Int64) => wp0_row.length = p0_row.length) := by
  rw [uf_J7_fill_d0a16]
  have e := i_ofn h
  refine wp_nm (fun y hy => ?_)
  have ty : y.toInt = p0_row.length := by rw [hy, e]
  have n0 : (0 : Int32).toInt = 0 := by decide
  exact sf_J7_fill_d0a16_6 N x1 0 y p0_row (by omega) (by omega) (by omega)

theorem uf_X0_forgetOldest (N : Nat) (v_done : Int32) (v_before : List Int32) (v_after : List Int32) : fX0_forgetOldest N v_done v_before v_after = mm_ck (mm_cok (1 : Int32) (0 : Int32) (39 : Int32) v_before.length v_before.length) (mm_nm (mm_cp v_before v_before (1 : Int32) (0 : Int32) (39 : Int32)) (fun (l_2 : List Int32) =>
    mm_ck (mm_cok (1 : Int32) (0 : Int32) (39 : Int32) v_after.length v_after.length) (mm_nm (mm_cp v_after v_after (1 : Int32) (0 : Int32) (39 : Int32)) (fun (l_4 : List Int32) =>
    mm_nm ((v_done - (1 : Int32))) (fun (y_5 : Int32) =>
    some (y_5, l_2, l_4)))))) := rfl

set_option maxHeartbeats 4000000 in
set_option maxRecDepth 20000 in
theorem sf_X0_forgetOldest {N : Nat} (hN : 700 ≤ N) {v_done : Int32} {v_before : List Int32} {v_after : List Int32} (h_0 : 0 ≤ v_done.toInt) (h_1 : v_done.toInt ≤ 40) (h_2 : v_before.length = 40) (h_3 : v_after.length = 40) (h_4 : 1 ≤ v_done.toInt) : wp (fX0_forgetOldest N v_done v_before v_after) (cu3 (fun (wv_done : Int32) (wv_before : List Int32) (wv_after : List Int32) => 0 ≤ wv_done.toInt ∧ wv_done.toInt ≤ 40 ∧ wv_before.length = 40 ∧ wv_after.length = 40 ∧ wv_done.toInt ≤ 39)) := by
  refine wp_of (uf_X0_forgetOldest _ _ _ _) ?_
  have n_1 : (1 : Int32).toInt = 1 := by decide
  have n_2 : (0 : Int32).toInt = 0 := by decide
  have n_3 : (39 : Int32).toInt = 39 := by decide
  have hc_4 : (mm_cok (1 : Int32) (0 : Int32) (39 : Int32) v_before.length v_before.length) = true := i_cok (by omega) (by omega) (by omega) (by omega) (by omega)
  refine wp_ck hc_4 ?_
  refine wp_nm (fun l_2 h_l_2 => ?_)
  have nl_l_2 : l_2.length = 40 := by rw [h_l_2, cp_len hc_4]; assumption
  have hc_5 : (mm_cok (1 : Int32) (0 : Int32) (39 : Int32) v_after.length v_after.length) = true := i_cok (by omega) (by omega) (by omega) (by omega) (by omega)
  refine wp_ck hc_5 ?_
  refine wp_nm (fun l_4 h_l_4 => ?_)
  have nl_l_4 : l_4.length = 40 := by rw [h_l_4, cp_len hc_5]; assumption
  refine wp_nm (fun y_5 h_y_5 => ?_)
  have e_6 := i_subE h_y_5.symm (by omega) (by omega)
  exact wp_so3 ⟨(by omega), (by omega), nl_l_2, nl_l_4, (by omega)⟩

theorem uf_X0_become (N : Nat) (x1 : Int32) (v_value : Int32) (v_done : Int32) (v_size : Int32) (v_before : List Int32) (v_after : List Int32) : fX0_become N x1 v_value v_done v_size v_before v_after = if x1 = v_value then
    (some (v_value, v_done, v_size, v_before, v_after))
    else (if v_done = (40 : Int32) then
    (mm_bd3 (fX0_forgetOldest N v_done v_before v_after) (fun (w_3 : Int32) (w_4 : List Int32) (w_5 : List Int32) =>
    fX0_become_22 N x1 v_value w_3 v_size w_4 w_5))
    else (fX0_become_22 N x1 v_value v_done v_size v_before v_after)) := rfl

theorem uf_X0_become_22 (N : Nat) (x1 : Int32) (v_value : Int32) (v_done : Int32) (v_size : Int32) (v_before : List Int32) (v_after : List Int32) : fX0_become_22 N x1 v_value v_done v_size v_before v_after = mm_ck (mm_inb v_done v_before.length) (mm_nm (mm_is v_before v_done v_value) (fun (l_8 : List Int32) =>
    mm_ck (mm_inb v_done v_after.length) (mm_nm (mm_is v_after v_done x1) (fun (l_10 : List Int32) =>
    mm_nm ((v_done + (1 : Int32))) (fun (y_11 : Int32) =>
    some (x1, y_11, y_11, l_8, l_10)))))) := rfl

set_option maxHeartbeats 4000000 in
set_option maxRecDepth 20000 in
theorem sf_X0_become {N : Nat} (hN : 700 ≤ N) {x1 : Int32} {v_value : Int32} {v_done : Int32} {v_size : Int32} {v_before : List Int32} {v_after : List Int32} (h_0 : 0 ≤ v_done.toInt) (h_1 : v_done.toInt ≤ 40) (h_2 : 0 ≤ v_size.toInt) (h_3 : v_size.toInt ≤ 40) (h_4 : v_before.length = 40) (h_5 : v_after.length = 40) : wp (fX0_become N x1 v_value v_done v_size v_before v_after) (cu5 (fun (wv_value : Int32) (wv_done : Int32) (wv_size : Int32) (wv_before : List Int32) (wv_after : List Int32) => 0 ≤ wv_done.toInt ∧ wv_done.toInt ≤ 40 ∧ 0 ≤ wv_size.toInt ∧ wv_size.toInt ≤ 40 ∧ wv_before.length = 40 ∧ wv_after.length = 40)) := by
  refine wp_of (uf_X0_become _ _ _ _ _ _ _) ?_
  refine wp_if (fun c_1 => ?_) (fun c_1 => ?_)
  ·
    have dc_1 := i_eq c_1
    exact wp_so5 ⟨h_0, h_1, h_2, h_3, h_4, h_5⟩
  ·
    have dc_1 := i_ne c_1
    have n_3 : (40 : Int32).toInt = 40 := by decide
    refine wp_if (fun c_2 => ?_) (fun c_2 => ?_)
    ·
      have dc_2 := i_eq c_2
      refine wp_bd3 (sf_X0_forgetOldest hN h_0 h_1 h_4 h_5 (by omega)) (fun w_3 w_4 w_5 ⟨q_4, q_5, q_6, q_7, q_8⟩ => ?_)
      refine wp_of (uf_X0_become_22 _ _ _ _ _ _ _) ?_
      refine wp_ck (i_inb (by omega) (by omega)) ?_
      refine wp_nm (fun l_8 h_l_8 => ?_)
      have nl_l_8 : l_8.length = 40 := by rw [h_l_8, is_len]; assumption
      refine wp_ck (i_inb (by omega) (by omega)) ?_
      refine wp_nm (fun l_10 h_l_10 => ?_)
      have nl_l_10 : l_10.length = 40 := by rw [h_l_10, is_len]; assumption
      have n_9 : (1 : Int32).toInt = 1 := by decide
      refine wp_nm (fun y_11 h_y_11 => ?_)
      have e_10 := i_addE h_y_11.symm (by omega) (by omega)
      exact wp_so5 ⟨(by omega), (by omega), (by omega), (by omega), nl_l_8, nl_l_10⟩
    ·
      have dc_2 := i_ne c_2
      refine wp_of (uf_X0_become_22 _ _ _ _ _ _ _) ?_
      refine wp_ck (i_inb (by omega) (by omega)) ?_
      refine wp_nm (fun l_8__11 h_l_8__11 => ?_)
      have nl_l_8__11 : l_8__11.length = 40 := by rw [h_l_8__11, is_len]; assumption
      refine wp_ck (i_inb (by omega) (by omega)) ?_
      refine wp_nm (fun l_10__12 h_l_10__12 => ?_)
      have nl_l_10__12 : l_10__12.length = 40 := by rw [h_l_10__12, is_len]; assumption
      have n_14 : (1 : Int32).toInt = 1 := by decide
      refine wp_nm (fun y_11__13 h_y_11__13 => ?_)
      have e_15 := i_addE h_y_11__13.symm (by omega) (by omega)
      exact wp_so5 ⟨(by omega), (by omega), (by omega), (by omega), nl_l_8__11, nl_l_10__12⟩

theorem uf_X0_stepBack (N : Nat) (v_value : Int32) (v_done : Int32) (v_before : List Int32) : fX0_stepBack N v_value v_done v_before = if v_done ≤ 0 then
    (some (v_value, v_done))
    else (mm_nm ((v_done - (1 : Int32))) (fun (y_2 : Int32) =>
    mm_ck (mm_inb y_2 v_before.length) (mm_nm ((mm_ig v_before y_2)) (fun (y_4 : Int32) =>
    some (y_4, y_2))))) := rfl

set_option maxHeartbeats 4000000 in
set_option maxRecDepth 20000 in
theorem sf_X0_stepBack {N : Nat} (hN : 700 ≤ N) {v_value : Int32} {v_done : Int32} {v_before : List Int32} (h_0 : 0 ≤ v_done.toInt) (h_1 : v_done.toInt ≤ 40) (h_2 : v_before.length = 40) : wp (fX0_stepBack N v_value v_done v_before) (cu2 (fun (wv_value : Int32) (wv_done : Int32) => 0 ≤ wv_done.toInt ∧ wv_done.toInt ≤ 40)) := by
  refine wp_of (uf_X0_stepBack _ _ _ _) ?_
  have n_2 : (0 : Int32).toInt = 0 := by decide
  refine wp_if (fun c_1 => ?_) (fun c_1 => ?_)
  ·
    have dc_1 := i_le c_1
    exact wp_so2 ⟨h_0, h_1⟩
  ·
    have dc_1 := i_nle c_1
    have n_3 : (1 : Int32).toInt = 1 := by decide
    refine wp_nm (fun y_2 h_y_2 => ?_)
    have e_4 := i_subE h_y_2.symm (by omega) (by omega)
    refine wp_ck (i_inb (by omega) (by omega)) ?_
    refine wp_nm (fun y_4 h_y_4 => ?_)
    have t_y_4 : y_4.toInt = ((mm_ig v_before y_2)).toInt := by rw [h_y_4]
    exact wp_so2 ⟨(by omega), (by omega)⟩

theorem uf_X0_stepOn (N : Nat) (v_value : Int32) (v_done : Int32) (v_size : Int32) (v_after : List Int32) : fX0_stepOn N v_value v_done v_size v_after = if v_size ≤ v_done then
    (some (v_value, v_done))
    else (mm_ck (mm_inb v_done v_after.length) (mm_nm ((mm_ig v_after v_done)) (fun (y_3 : Int32) =>
    mm_nm ((v_done + (1 : Int32))) (fun (y_4 : Int32) =>
    some (y_3, y_4))))) := rfl

set_option maxHeartbeats 4000000 in
set_option maxRecDepth 20000 in
theorem sf_X0_stepOn {N : Nat} (hN : 700 ≤ N) {v_value : Int32} {v_done : Int32} {v_size : Int32} {v_after : List Int32} (h_0 : 0 ≤ v_done.toInt) (h_1 : v_done.toInt ≤ 40) (h_2 : 0 ≤ v_size.toInt) (h_3 : v_size.toInt ≤ 40) (h_4 : v_after.length = 40) : wp (fX0_stepOn N v_value v_done v_size v_after) (cu2 (fun (wv_value : Int32) (wv_done : Int32) => 0 ≤ wv_done.toInt ∧ wv_done.toInt ≤ 40)) := by
  refine wp_of (uf_X0_stepOn _ _ _ _ _) ?_
  refine wp_if (fun c_1 => ?_) (fun c_1 => ?_)
  ·
    have dc_1 := i_le c_1
    exact wp_so2 ⟨h_0, h_1⟩
  ·
    have dc_1 := i_nle c_1
    refine wp_ck (i_inb (by omega) (by omega)) ?_
    refine wp_nm (fun y_3 h_y_3 => ?_)
    have t_y_3 : y_3.toInt = ((mm_ig v_after v_done)).toInt := by rw [h_y_3]
    have n_2 : (1 : Int32).toInt = 1 := by decide
    refine wp_nm (fun y_4 h_y_4 => ?_)
    have e_3 := i_addE h_y_4.symm (by omega) (by omega)
    exact wp_so2 ⟨(by omega), (by omega)⟩

theorem uf_X1_make (N : Nat) (x1 : Int32) (v_size : Int32) (v_kinds : List Int32) : fX1_make N x1 v_size v_kinds = if v_size < (50 : Int32) then
    (mm_ck (mm_inb v_size v_kinds.length) (mm_nm (mm_is v_kinds v_size x1) (fun (l_3 : List Int32) =>
    mm_nm ((v_size + (1 : Int32))) (fun (y_4 : Int32) =>
    some (true, y_4, l_3)))))
    else (some (false, v_size, v_kinds)) := rfl

set_option maxHeartbeats 4000000 in
set_option maxRecDepth 20000 in
theorem sf_X1_make {N : Nat} (hN : 700 ≤ N) {x1 : Int32} {v_size : Int32} {v_kinds : List Int32} (h_0 : 0 ≤ v_size.toInt) (h_1 : v_size.toInt ≤ 50) (h_2 : v_kinds.length = 50) (h_3 : zn v_kinds 0 v_size.toInt 0 8) (h_4 : 0 ≤ x1.toInt) (h_5 : x1.toInt < 8) : wp (fX1_make N x1 v_size v_kinds) (cu3 (fun (r : Bool) (wv_size : Int32) (wv_kinds : List Int32) => 0 ≤ wv_size.toInt ∧ wv_size.toInt ≤ 50 ∧ wv_kinds.length = 50 ∧ zn wv_kinds 0 wv_size.toInt 0 8)) := by
  refine wp_of (uf_X1_make _ _ _ _) ?_
  have n_2 : (50 : Int32).toInt = 50 := by decide
  refine wp_if (fun c_1 => ?_) (fun c_1 => ?_)
  ·
    have dc_1 := i_lt c_1
    refine wp_ck (i_inb (by omega) (by omega)) ?_
    refine wp_nm (fun l_3 h_l_3 => ?_)
    have nl_l_3 : l_3.length = 50 := by rw [h_l_3, is_len]; assumption
    have n_3 : (1 : Int32).toInt = 1 := by decide
    refine wp_nm (fun y_4 h_y_4 => ?_)
    have e_4 := i_addE h_y_4.symm (by omega) (by omega)
    exact wp_so3 ⟨(by omega), (by omega), nl_l_3, (by first | assumption | exact zn_nil (by omega) | (rw [h_l_3]; first | exact zn_out h_3 (by omega) (by omega) | exact zn_in h_3 (by omega) (by omega) (by omega) | exact zn_ext h_3 (by omega) (by omega) (by omega) (by omega) (by omega) | exact zn_out (zn_sub h_3 (by omega) (by omega) (by omega) (by omega)) (by omega) (by omega)) | (exfalso; omega))⟩
  ·
    have dc_1 := i_nlt c_1
    exact wp_so3 ⟨h_0, h_1, h_2, h_3⟩

theorem uf_X1_has (N : Nat) (x1 : Int32) (v_size : Int32) : fX1_has N x1 v_size = if x1 < 0 then
    (some (false))
    else (if v_size ≤ x1 then
    (some (false))
    else (some (true))) := rfl

set_option maxHeartbeats 4000000 in
set_option maxRecDepth 20000 in
theorem sf_X1_has {N : Nat} (hN : 700 ≤ N) {x1 : Int32} {v_size : Int32} (h_0 : 0 ≤ v_size.toInt) (h_1 : v_size.toInt ≤ 50) : wp (fX1_has N x1 v_size) (fun (r : Bool) => ((r = true ∧ 0 ≤ x1.toInt ∧ x1.toInt < v_size.toInt) ∨ (r = false ∧ True))) := by
  refine wp_of (uf_X1_has _ _ _) ?_
  have n_2 : (0 : Int32).toInt = 0 := by decide
  refine wp_if (fun c_1 => ?_) (fun c_1 => ?_)
  ·
    have dc_1 := i_lt c_1
    exact wp_so1 (by first | exact Or.inl ⟨rfl, by first | trivial | omega⟩ | exact Or.inr ⟨rfl, by first | trivial | omega⟩)
  ·
    have dc_1 := i_nlt c_1
    refine wp_if (fun c_3 => ?_) (fun c_3 => ?_)
    ·
      have dc_3 := i_le c_3
      exact wp_so1 (by first | exact Or.inl ⟨rfl, by first | trivial | omega⟩ | exact Or.inr ⟨rfl, by first | trivial | omega⟩)
    ·
      have dc_3 := i_nle c_3
      exact wp_so1 (by first | exact Or.inl ⟨rfl, by first | trivial | omega⟩ | exact Or.inr ⟨rfl, by first | trivial | omega⟩)

theorem uf_X1_isUnder_20 (N : Nat) (n : Nat) (x2 : Int32) (x3 : Int32) (x4 : Int32) (v_size : Int32) (v_kinds : List Int32) : fX1_isUnder_20 N (n + 1) x2 x3 x4 v_size v_kinds = 
    if (8 : Int32) ≤ x4 then
    (some (false))
    else (if x3 < 0 then
    (some (false))
    else (if x3 = x2 then
    (some (true))
    else (mm_ck (mm_inb x3 mm_ABOVE.length) (mm_nm ((mm_ig mm_ABOVE x3)) (fun (y_10 : Int32) =>
    mm_nm (x4 + (1 : Int32)) (fun (y_11 : Int32) =>
    fX1_isUnder_20 N n x2 y_10 y_11 v_size v_kinds)))))) := rfl

set_option maxHeartbeats 4000000 in
set_option maxRecDepth 20000 in
theorem sf_X1_isUnder_20 {N : Nat} (hN : 700 ≤ N) {x1 : Int32} : ∀ (n : Nat) (x2 : Int32) (x3 : Int32) (x4 : Int32) (v_size : Int32) (v_kinds : List Int32), 0 ≤ v_size.toInt → v_size.toInt ≤ 50 → v_kinds.length = 50 → zn v_kinds 0 v_size.toInt 0 8 → 0 ≤ x1.toInt → x1.toInt < v_size.toInt → -1 ≤ x3.toInt → x3.toInt < 8 → 0 ≤ x4.toInt → x4.toInt ≤ 8 → (8 - x4.toInt).toNat < n → wp (fX1_isUnder_20 N n x2 x3 x4 v_size v_kinds) (fun (r : Bool) => ((r = true ∧ 0 ≤ x1.toInt ∧ x1.toInt < v_size.toInt) ∨ (r = false ∧ True))) := by
  intro n
  induction n with
  | zero =>
    intro x2 x3 x4 v_size v_kinds h_0 h_1 h_2 h_3 h_4 h_5 h_6 h_7 h_8 h_9 hm
    exact absurd hm (by omega)
  | succ n ih =>
    intro x2 x3 x4 v_size v_kinds h_0 h_1 h_2 h_3 h_4 h_5 h_6 h_7 h_8 h_9 hm
    refine wp_of (uf_X1_isUnder_20 _ _ _ _ _ _ _) ?_
    have n_2 : (8 : Int32).toInt = 8 := by decide
    refine wp_if (fun c_1 => ?_) (fun c_1 => ?_)
    ·
      have dc_1 := i_le c_1
      exact wp_so1 (by first | exact Or.inl ⟨rfl, by first | trivial | omega⟩ | exact Or.inr ⟨rfl, by first | trivial | omega⟩)
    ·
      have dc_1 := i_nle c_1
      have n_4 : (0 : Int32).toInt = 0 := by decide
      refine wp_if (fun c_3 => ?_) (fun c_3 => ?_)
      ·
        have dc_3 := i_lt c_3
        exact wp_so1 (by first | exact Or.inl ⟨rfl, by first | trivial | omega⟩ | exact Or.inr ⟨rfl, by first | trivial | omega⟩)
      ·
        have dc_3 := i_nlt c_3
        refine wp_if (fun c_5 => ?_) (fun c_5 => ?_)
        ·
          have dc_5 := i_eq c_5
          exact wp_so1 (by first | exact Or.inl ⟨rfl, by first | trivial | omega⟩ | exact Or.inr ⟨rfl, by first | trivial | omega⟩)
        ·
          have dc_5 := i_ne c_5
          have nl_6 : mm_ABOVE.length = 8 := rfl
          refine wp_ck (i_inb (by omega) (by omega)) ?_
          obtain ⟨e_7, e1_7⟩ := zn_get zn_above (i := x3) (by omega) (by omega) (by omega) (by omega)
          refine wp_nm (fun y_10 h_y_10 => ?_)
          have t_y_10 : y_10.toInt = ((mm_ig mm_ABOVE x3)).toInt := by rw [h_y_10]
          have n_9 : (1 : Int32).toInt = 1 := by decide
          refine wp_nm (fun y_11 h_y_11 => ?_)
          have e_10 := i_addE h_y_11.symm (by omega) (by omega)
          exact ih _ _ _ _ _ h_0 h_1 h_2 h_3 h_4 h_5 (by omega) (by omega) (by omega) (by omega) (by omega)

theorem uf_X1_isUnder (N : Nat) (x1 : Int32) (x2 : Int32) (v_size : Int32) (v_kinds : List Int32) : fX1_isUnder N x1 x2 v_size v_kinds = mm_bd1 (fX1_has N x1 v_size) (fun (r_1 : Bool) =>
    if r_1 = false then
    (some (false))
    else (mm_ck (mm_inb x1 v_kinds.length) (mm_nm ((mm_ig v_kinds x1)) (fun (y_5 : Int32) =>
    fX1_isUnder_20 N N x2 y_5 (0 : Int32) v_size v_kinds)))) := rfl

set_option maxHeartbeats 4000000 in
set_option maxRecDepth 20000 in
theorem sf_X1_isUnder {N : Nat} (hN : 700 ≤ N) {x1 : Int32} {x2 : Int32} {v_size : Int32} {v_kinds : List Int32} (h_0 : 0 ≤ v_size.toInt) (h_1 : v_size.toInt ≤ 50) (h_2 : v_kinds.length = 50) (h_3 : zn v_kinds 0 v_size.toInt 0 8) : wp (fX1_isUnder N x1 x2 v_size v_kinds) (fun (r : Bool) => ((r = true ∧ 0 ≤ x1.toInt ∧ x1.toInt < v_size.toInt) ∨ (r = false ∧ True))) := by
  refine wp_of (uf_X1_isUnder _ _ _ _ _) ?_
  refine wp_bd1 (sf_X1_has hN h_0 h_1) (fun r_1 q_1 => ?_)
  rcases q_1 with ⟨rfl, q_1⟩ | ⟨rfl, q_1⟩
  ·
    refine wp_ifn (by decide) ?_
    refine wp_ck (i_inb (by omega) (by omega)) ?_
    obtain ⟨e_2, e1_2⟩ := zn_get h_3 (i := x1) (by omega) (by omega) (by omega) (by omega)
    refine wp_nm (fun y_5 h_y_5 => ?_)
    have t_y_5 : y_5.toInt = ((mm_ig v_kinds x1)).toInt := by rw [h_y_5]
    have n_4 : (0 : Int32).toInt = 0 := by decide
    exact sf_X1_isUnder_20 hN _ _ _ _ _ _ h_0 h_1 h_2 h_3 (by omega) (by omega) (by omega) (by omega) (by omega) (by omega) (by omega)
  ·
    refine wp_ifp (by decide) ?_
    exact wp_so1 (by first | exact Or.inl ⟨rfl, by first | trivial | omega⟩ | exact Or.inr ⟨rfl, by first | trivial | omega⟩)

theorem uf_X1_traced (N : Nat) (x1 : Int32) (v_ran : Int32) (v_trace : List Int32) : fX1_traced N x1 v_ran v_trace = if x1 < 0 then
    (some ((-1 : Int32)))
    else (if (24 : Int32) ≤ x1 then
    (some ((-1 : Int32)))
    else (if v_ran ≤ x1 then
    (some ((-1 : Int32)))
    else (mm_ck (mm_inb x1 v_trace.length) (some ((mm_ig v_trace x1)))))) := rfl

set_option maxHeartbeats 4000000 in
set_option maxRecDepth 20000 in
theorem sf_X1_traced {N : Nat} (hN : 700 ≤ N) {x1 : Int32} {v_ran : Int32} {v_trace : List Int32} (h_0 : v_trace.length = 24) : wp (fX1_traced N x1 v_ran v_trace) (fun (r : Int32) => True) := by
  refine wp_of (uf_X1_traced _ _ _ _) ?_
  have n_2 : (0 : Int32).toInt = 0 := by decide
  refine wp_if (fun c_1 => ?_) (fun c_1 => ?_)
  ·
    have dc_1 := i_lt c_1
    exact wp_so1 trivial
  ·
    have dc_1 := i_nlt c_1
    have n_4 : (24 : Int32).toInt = 24 := by decide
    refine wp_if (fun c_3 => ?_) (fun c_3 => ?_)
    ·
      have dc_3 := i_le c_3
      exact wp_so1 trivial
    ·
      have dc_3 := i_nle c_3
      refine wp_if (fun c_5 => ?_) (fun c_5 => ?_)
      ·
        have dc_5 := i_le c_5
        exact wp_so1 trivial
      ·
        have dc_5 := i_nle c_5
        refine wp_ck (i_inb (by omega) (by omega)) ?_
        exact wp_so1 trivial

theorem uf_X6_holdFolding (N : Nat) (x1 : Int32) (v_holds : Int32) (v_body : Int32) : fX6_holdFolding N x1 v_holds v_body = some ((1 : Int32), x1) := rfl

set_option maxHeartbeats 4000000 in
set_option maxRecDepth 20000 in
theorem sf_X6_holdFolding {N : Nat} (hN : 700 ≤ N) {x1 : Int32} {v_holds : Int32} {v_body : Int32}  : wp (fX6_holdFolding N x1 v_holds v_body) (cu2 (fun (wv_holds : Int32) (wv_body : Int32) => True)) := by
  refine wp_of (uf_X6_holdFolding _ _ _ _) ?_
  exact wp_so2 trivial

theorem uf_X6_holdRow (N : Nat) (x1 : Int32) (x2 : Int32) (v_holds : Int32) (v_sort : Int32) (v_size : Int32) (v_items : List Int64) : fX6_holdRow N x1 x2 v_holds v_sort v_size v_items = mm_bd1 (fJ7_fill_d0a16 N (0 : Int64) v_items) (fun (w_1 : List Int64) =>
    some ((2 : Int32), x1, x2, w_1)) := rfl

set_option maxHeartbeats 4000000 in
set_option maxRecDepth 20000 in
theorem sf_X6_holdRow {N : Nat} (hN : 700 ≤ N) {x1 : Int32} {x2 : Int32} {v_holds : Int32} {v_sort : Int32} {v_size : Int32} {v_items : List Int64} (h_0 : 0 ≤ v_size.toInt) (h_1 : v_size.toInt ≤ 60) (h_2 : v_items.length = 60) (h_3 : 0 ≤ x2.toInt) (h_4 : x2.toInt ≤ 60) : wp (fX6_holdRow N x1 x2 v_holds v_sort v_size v_items) (cu4 (fun (wv_holds : Int32) (wv_sort : Int32) (wv_size : Int32) (wv_items : List Int64) => 0 ≤ wv_size.toInt ∧ wv_size.toInt ≤ 60 ∧ wv_items.length = 60)) := by
  refine wp_of (uf_X6_holdRow _ _ _ _ _ _ _) ?_
  refine wp_bd1 (sf_J7_fill_d0a16 hN (by first | assumption | omega | decide) (by first | assumption | omega | decide)) (fun w_1 q_1 => ?_)
  have nl_w_1 : w_1.length = 60 := by omega
  exact wp_so4 ⟨h_3, h_4, nl_w_1⟩

theorem uf_X6_hasPart (N : Nat) (x1 : Int32) (x2 : Int32) (v_size : Int32) : fX6_hasPart N x1 x2 v_size = if x1 < 0 then
    (some (false))
    else (if v_size < x1 then
    (some (false))
    else (if (v_size - x1) < x2 then
    (some (false))
    else (some (true)))) := rfl

set_option maxHeartbeats 4000000 in
set_option maxRecDepth 20000 in
theorem sf_X6_hasPart {N : Nat} (hN : 700 ≤ N) {x1 : Int32} {x2 : Int32} {v_size : Int32} (h_0 : 0 ≤ v_size.toInt) (h_1 : v_size.toInt ≤ 60) : wp (fX6_hasPart N x1 x2 v_size) (fun (r : Bool) => ((r = true ∧ 0 ≤ x1.toInt ∧ x2.toInt ≤ v_size.toInt - x1.toInt ∧ x1.toInt ≤ v_size.toInt) ∨ (r = false ∧ True))) := by
  refine wp_of (uf_X6_hasPart _ _ _ _) ?_
  have n_2 : (0 : Int32).toInt = 0 := by decide
  refine wp_if (fun c_1 => ?_) (fun c_1 => ?_)
  ·
    have dc_1 := i_lt c_1
    exact wp_so1 (by first | exact Or.inl ⟨rfl, by first | trivial | omega⟩ | exact Or.inr ⟨rfl, by first | trivial | omega⟩)
  ·
    have dc_1 := i_nlt c_1
    refine wp_if (fun c_3 => ?_) (fun c_3 => ?_)
    ·
      have dc_3 := i_lt c_3
      exact wp_so1 (by first | exact Or.inl ⟨rfl, by first | trivial | omega⟩ | exact Or.inr ⟨rfl, by first | trivial | omega⟩)
    ·
      have dc_3 := i_nlt c_3
      generalize hz_z : (v_size - x1) = z
      first | have e_5 := i_subE hz_z (by omega) (by omega) | obtain ⟨k_5, e_5, e1_5, e2_5⟩ := i_subY hz_z
      refine wp_if (fun c_4 => ?_) (fun c_4 => ?_)
      ·
        have dc_4 := i_lt c_4
        exact wp_so1 (by first | exact Or.inl ⟨rfl, by first | trivial | omega⟩ | exact Or.inr ⟨rfl, by first | trivial | omega⟩)
      ·
        have dc_4 := i_nlt c_4
        exact wp_so1 (by first | exact Or.inl ⟨rfl, by first | trivial | omega⟩ | exact Or.inr ⟨rfl, by first | trivial | omega⟩)

theorem uf_X6_lowestBits (N : Nat) (x1 : Int64) (v_sort : Int32) : fX6_lowestBits N x1 v_sort = if v_sort = (0 : Int32) then
    (some ((((x1.toInt32).toInt8.toInt32).toInt64)))
    else (if v_sort = (1 : Int32) then
    (some ((((x1.toInt32).toInt16.toInt32).toInt64)))
    else (if v_sort = (2 : Int32) then
    (some (((x1.toInt32).toInt64)))
    else (if v_sort = (3 : Int32) then
    (some (x1))
    else (if (lg_cmp x1 (0 : Int64)) = 0 then
    (some ((0 : Int64)))
    else (some ((1 : Int64))))))) := rfl

set_option maxHeartbeats 4000000 in
set_option maxRecDepth 20000 in
theorem sf_X6_lowestBits {N : Nat} (hN : 700 ≤ N) {x1 : Int64} {v_sort : Int32}  : wp (fX6_lowestBits N x1 v_sort) (fun (r : Int64) => True) := by
  refine wp_of (uf_X6_lowestBits _ _ _) ?_
  have n_2 : (0 : Int32).toInt = 0 := by decide
  refine wp_if (fun c_1 => ?_) (fun c_1 => ?_)
  ·
    have dc_1 := i_eq c_1
    exact wp_so1 trivial
  ·
    have dc_1 := i_ne c_1
    have n_4 : (1 : Int32).toInt = 1 := by decide
    refine wp_if (fun c_3 => ?_) (fun c_3 => ?_)
    ·
      have dc_3 := i_eq c_3
      exact wp_so1 trivial
    ·
      have dc_3 := i_ne c_3
      have n_6 : (2 : Int32).toInt = 2 := by decide
      refine wp_if (fun c_5 => ?_) (fun c_5 => ?_)
      ·
        have dc_5 := i_eq c_5
        exact wp_so1 trivial
      ·
        have dc_5 := i_ne c_5
        have n_8 : (3 : Int32).toInt = 3 := by decide
        refine wp_if (fun c_7 => ?_) (fun c_7 => ?_)
        ·
          have dc_7 := i_eq c_7
          exact wp_so1 trivial
        ·
          have dc_7 := i_ne c_7
          refine wp_if (fun c_9 => ?_) (fun c_9 => ?_)
          ·
            exact wp_so1 trivial
          ·
            exact wp_so1 trivial

theorem uf_X6_store (N : Nat) (x1 : Int32) (x2 : Int64) (v_sort : Int32) (v_items : List Int64) : fX6_store N x1 x2 v_sort v_items = mm_bd1 (fX6_lowestBits N x2 v_sort) (fun (r_1 : Int64) =>
    mm_ck (mm_inb x1 v_items.length) (mm_nm (mm_ls v_items x1 r_1) (fun (l_4 : List Int64) =>
    some (l_4)))) := rfl

set_option maxHeartbeats 4000000 in
set_option maxRecDepth 20000 in
theorem sf_X6_store {N : Nat} (hN : 700 ≤ N) {x1 : Int32} {x2 : Int64} {v_sort : Int32} {v_items : List Int64} (h_0 : v_items.length = 60) (h_1 : 0 ≤ x1.toInt) (h_2 : x1.toInt < 60) : wp (fX6_store N x1 x2 v_sort v_items) (fun (wv_items : List Int64) => wv_items.length = 60) := by
  refine wp_of (uf_X6_store _ _ _ _ _) ?_
  refine wp_bd1 (sf_X6_lowestBits hN ) (fun r_1 _ => ?_)
  refine wp_ck (i_inb (by omega) (by omega)) ?_
  refine wp_nm (fun l_4 h_l_4 => ?_)
  have nl_l_4 : l_4.length = 60 := by rw [h_l_4, ls_len]; assumption
  exact wp_so1 nl_l_4
