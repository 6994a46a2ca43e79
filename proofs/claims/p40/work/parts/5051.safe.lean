/-! safe -/
theorem uf_X9_within (N : Nat) (x0 : Int64) (x2 : Int64) (x4 : Int64) : fX9_within N x0 x2 x4 = if (lg_cmp x0 x2) < 0 then
    (some (false))
    else (if 0 < (lg_cmp x0 x4) then
    (some (false))
    else (some (true))) := rfl

theorem uf_X9_fields (N : Nat) (v_rowsOf : Int32) (v_columnsOf : Int32) : fX9_fields N v_rowsOf v_columnsOf = some ((v_rowsOf * v_columnsOf)) := rfl


theorem sf_X9_within {N : Nat} (hN : 700 ≤ N) {x0 x2 x4 : Int64} : wp (fX9_within N x0 x2 x4) (fun (r : Bool) => (r = true ∧ x2.toInt ≤ x0.toInt ∧ x0.toInt ≤ x4.toInt) ∨ (r = false ∧ (x0.toInt < x2.toInt ∨ x4.toInt < x0.toInt))) := by
  rw [uf_X9_within]
  refine wp_if (fun c => ?_) (fun c => ?_)
  · have := (lg_neg _ _).mp c
    exact wp_so1 (Or.inr ⟨rfl, by omega⟩)
  · have h1 : ¬ x0.toInt < x2.toInt := fun k => c ((lg_neg _ _).mpr k)
    refine wp_if (fun c => ?_) (fun c => ?_)
    · have := (lg_pos _ _).mp c
      exact wp_so1 (Or.inr ⟨rfl, by omega⟩)
    · have h2 : ¬ x4.toInt < x0.toInt := fun k => c ((lg_pos _ _).mpr k)
      exact wp_so1 (Or.inl ⟨rfl, by omega⟩)
theorem sf_X9_fields {N : Nat} (hN : 700 ≤ N) {v_rowsOf v_columnsOf : Int32} (h_0 : 1 ≤ v_rowsOf.toInt) (h_1 : v_rowsOf.toInt ≤ 4) (h_2 : 1 ≤ v_columnsOf.toInt) (h_3 : v_columnsOf.toInt ≤ 8) : wp (fX9_fields N v_rowsOf v_columnsOf) (fun (r : Int32) => r.toInt = v_rowsOf.toInt * v_columnsOf.toInt ∧ 1 ≤ r.toInt ∧ r.toInt ≤ 32) := by
  rw [uf_X9_fields]
  have h := i_fl h_0 h_1 h_2 h_3
  exact wp_so1 ⟨h.1, by rw [h.1]; exact h.2.1, by rw [h.1]; exact h.2.2⟩

theorem uf_X9_limit_39 (N : Nat) (n : Nat) (x1 : Int32) (x2 : Int32) (x3 : Int32) (v_keptMany : Int32) (v_done : Int32) (v_limit : List Int32) (v_changeWas : List Int32) (v_changeIs : List Int32) : fX9_limit_39 N (n + 1) x1 x2 x3 v_keptMany v_done v_limit v_changeWas v_changeIs = 
    if (40 : Int32) ≤ x3 then
    (mm_nm ((v_done - (1 : Int32))) (fun (y_9 : Int32) =>
    fX9_limit_89 N x1 x2 v_keptMany y_9 v_limit v_changeWas v_changeIs))
    else (mm_ck (mm_inb x3 v_changeWas.length) (mm_nm ((mm_ig v_changeWas x3)) (fun (y_11 : Int32) =>
    mm_ck (mm_inb (x3 - (1 : Int32)) v_changeWas.length) (mm_nm (mm_is v_changeWas (x3 - (1 : Int32)) y_11) (fun (l_13 : List Int32) =>
    mm_ck (mm_inb x3 v_changeIs.length) (mm_nm ((mm_ig v_changeIs x3)) (fun (y_15 : Int32) =>
    mm_ck (mm_inb (x3 - (1 : Int32)) v_changeIs.length) (mm_nm (mm_is v_changeIs (x3 - (1 : Int32)) y_15) (fun (l_17 : List Int32) =>
    mm_nm (x3 + (1 : Int32)) (fun (y_18 : Int32) =>
    fX9_limit_39 N n x1 x2 y_18 v_keptMany v_done v_limit l_13 l_17)))))))))) := rfl

theorem uf_X9_limit_89 (N : Nat) (x1 : Int32) (x2 : Int32) (v_keptMany : Int32) (v_done : Int32) (v_limit : List Int32) (v_changeWas : List Int32) (v_changeIs : List Int32) : fX9_limit_89 N x1 x2 v_keptMany v_done v_limit v_changeWas v_changeIs = mm_ck (mm_inb v_done v_changeWas.length) (mm_nm (mm_is v_changeWas v_done x2) (fun (l_20 : List Int32) =>
    mm_ck (mm_inb v_done v_changeIs.length) (mm_nm (mm_is v_changeIs v_done x1) (fun (l_22 : List Int32) =>
    mm_nm ((v_done + (1 : Int32))) (fun (y_23 : Int32) =>
    mm_ck (mm_inb (0 : Int32) v_limit.length) (mm_nm (mm_is v_limit (0 : Int32) x1) (fun (l_25 : List Int32) =>
    some (x2, y_23, y_23, l_25, l_20, l_22)))))))) := rfl

set_option maxHeartbeats 4000000 in
set_option maxRecDepth 20000 in
theorem sf_X9_limit_39 {N : Nat} (hN : 700 ≤ N)  : ∀ (n : Nat) (x1 : Int32) (x2 : Int32) (x3 : Int32) (v_keptMany : Int32) (v_done : Int32) (v_limit : List Int32) (v_changeWas : List Int32) (v_changeIs : List Int32), 0 ≤ v_keptMany.toInt → v_keptMany.toInt ≤ 40 → 0 ≤ v_done.toInt → v_done.toInt ≤ 40 → v_limit.length = 1 → v_changeWas.length = 40 → v_changeIs.length = 40 → 1 ≤ x3.toInt → x3.toInt ≤ 40 → 1 ≤ v_done.toInt → (40 - x3.toInt).toNat < n → wp (fX9_limit_39 N n x1 x2 x3 v_keptMany v_done v_limit v_changeWas v_changeIs) (cu6 (fun (r : Int32) (wv_keptMany : Int32) (wv_done : Int32) (wv_limit : List Int32) (wv_changeWas : List Int32) (wv_changeIs : List Int32) => 0 ≤ wv_keptMany.toInt ∧ wv_keptMany.toInt ≤ 40 ∧ 0 ≤ wv_done.toInt ∧ wv_done.toInt ≤ 40 ∧ wv_limit.length = 1 ∧ wv_changeWas.length = 40 ∧ wv_changeIs.length = 40 ∧ wv_done.toInt ≤ wv_keptMany.toInt)) := by
  intro n
  induction n with
  | zero =>
    intro x1 x2 x3 v_keptMany v_done v_limit v_changeWas v_changeIs h_0 h_1 h_2 h_3 h_4 h_5 h_6 h_7 h_8 h_9 hm
    exact absurd hm (by omega)
  | succ n ih =>
    intro x1 x2 x3 v_keptMany v_done v_limit v_changeWas v_changeIs h_0 h_1 h_2 h_3 h_4 h_5 h_6 h_7 h_8 h_9 hm
    refine wp_of (uf_X9_limit_39 _ _ _ _ _ _ _ _ _ _) ?_
    have n_2 : (40 : Int32).toInt = 40 := by decide
    refine wp_if (fun c_1 => ?_) (fun c_1 => ?_)
    ·
      have dc_1 := i_le c_1
      have n_3 : (1 : Int32).toInt = 1 := by decide
      refine wp_nm (fun y_9 h_y_9 => ?_)
      have e_4 := i_subE h_y_9.symm (by omega) (by omega)
      refine wp_of (uf_X9_limit_89 _ _ _ _ _ _ _ _) ?_
      refine wp_ck (i_inb (by omega) (by omega)) ?_
      refine wp_nm (fun l_20 h_l_20 => ?_)
      have nl_l_20 : l_20.length = 40 := by rw [h_l_20, is_len]; assumption
      refine wp_ck (i_inb (by omega) (by omega)) ?_
      refine wp_nm (fun l_22 h_l_22 => ?_)
      have nl_l_22 : l_22.length = 40 := by rw [h_l_22, is_len]; assumption
      refine wp_nm (fun y_23 h_y_23 => ?_)
      have e_5 := i_addE h_y_23.symm (by omega) (by omega)
      have n_6 : (0 : Int32).toInt = 0 := by decide
      refine wp_ck (i_inb (by omega) (by omega)) ?_
      refine wp_nm (fun l_25 h_l_25 => ?_)
      have nl_l_25 : l_25.length = 1 := by rw [h_l_25, is_len]; assumption
      exact wp_so6 ⟨(by omega), (by omega), (by omega), (by omega), nl_l_25, nl_l_20, nl_l_22, (by omega)⟩
    ·
      have dc_1 := i_nle c_1
      refine wp_ck (i_inb (by omega) (by omega)) ?_
      refine wp_nm (fun y_11 h_y_11 => ?_)
      have t_y_11 : y_11.toInt = ((mm_ig v_changeWas x3)).toInt := by rw [h_y_11]
      have n_7 : (1 : Int32).toInt = 1 := by decide
      generalize hz_z : (x3 - (1 : Int32)) = z
      have e_8 := i_subE hz_z (by omega) (by omega)
      refine wp_ck (i_inb (by omega) (by omega)) ?_
      refine wp_nm (fun l_13 h_l_13 => ?_)
      have nl_l_13 : l_13.length = 40 := by rw [h_l_13, is_len]; assumption
      refine wp_ck (i_inb (by omega) (by omega)) ?_
      refine wp_nm (fun y_15 h_y_15 => ?_)
      have t_y_15 : y_15.toInt = ((mm_ig v_changeIs x3)).toInt := by rw [h_y_15]
      refine wp_ck (i_inb (by omega) (by omega)) ?_
      refine wp_nm (fun l_17 h_l_17 => ?_)
      have nl_l_17 : l_17.length = 40 := by rw [h_l_17, is_len]; assumption
      refine wp_nm (fun y_18 h_y_18 => ?_)
      have e_9 := i_addE h_y_18.symm (by omega) (by omega)
      exact ih _ _ _ _ _ _ _ _ h_0 h_1 h_2 h_3 h_4 nl_l_13 nl_l_17 (by omega) (by omega) h_9 (by omega)

theorem uf_X9_limit (N : Nat) (x1 : Int32) (v_keptMany : Int32) (v_done : Int32) (v_limit : List Int32) (v_changeWas : List Int32) (v_changeIs : List Int32) : fX9_limit N x1 v_keptMany v_done v_limit v_changeWas v_changeIs = mm_bd1 (fX9_within N ((x1).toInt64) (1 : Int64) (99 : Int64)) (fun (r_1 : Bool) =>
    if r_1 = false then
    (some ((-1 : Int32), v_keptMany, v_done, v_limit, v_changeWas, v_changeIs))
    else (mm_ck (mm_inb (0 : Int32) v_limit.length) (mm_nm ((mm_ig v_limit (0 : Int32))) (fun (y_5 : Int32) =>
    if y_5 = x1 then
    (some (y_5, v_keptMany, v_done, v_limit, v_changeWas, v_changeIs))
    else (if v_done = (40 : Int32) then
    (fX9_limit_39 N N x1 y_5 (1 : Int32) v_keptMany v_done v_limit v_changeWas v_changeIs)
    else (fX9_limit_89 N x1 y_5 v_keptMany v_done v_limit v_changeWas v_changeIs)))))) := rfl

set_option maxHeartbeats 4000000 in
set_option maxRecDepth 20000 in
theorem sf_X9_limit {N : Nat} (hN : 700 ≤ N) {x1 : Int32} {v_keptMany : Int32} {v_done : Int32} {v_limit : List Int32} {v_changeWas : List Int32} {v_changeIs : List Int32} (h_0 : 0 ≤ v_keptMany.toInt) (h_1 : v_keptMany.toInt ≤ 40) (h_2 : 0 ≤ v_done.toInt) (h_3 : v_done.toInt ≤ 40) (h_4 : v_limit.length = 1) (h_5 : v_changeWas.length = 40) (h_6 : v_changeIs.length = 40) (h_7 : v_done.toInt ≤ v_keptMany.toInt) : wp (fX9_limit N x1 v_keptMany v_done v_limit v_changeWas v_changeIs) (cu6 (fun (r : Int32) (wv_keptMany : Int32) (wv_done : Int32) (wv_limit : List Int32) (wv_changeWas : List Int32) (wv_changeIs : List Int32) => 0 ≤ wv_keptMany.toInt ∧ wv_keptMany.toInt ≤ 40 ∧ 0 ≤ wv_done.toInt ∧ wv_done.toInt ≤ 40 ∧ wv_limit.length = 1 ∧ wv_changeWas.length = 40 ∧ wv_changeIs.length = 40 ∧ wv_done.toInt ≤ wv_keptMany.toInt)) := by
  refine wp_of (uf_X9_limit _ _ _ _ _ _ _) ?_
  have n_1 := i_64 x1
  have n_2 : (1 : Int64).toInt = 1 := by decide
  have n_3 : (99 : Int64).toInt = 99 := by decide
  refine wp_bd1 (sf_X9_within hN ) (fun r_1 q_4 => ?_)
  rcases q_4 with ⟨rfl, q_4⟩ | ⟨rfl, q_4⟩
  ·
    refine wp_ifn (by decide) ?_
    have n_5 : (0 : Int32).toInt = 0 := by decide
    refine wp_ck (i_inb (by omega) (by omega)) ?_
    refine wp_nm (fun y_5 h_y_5 => ?_)
    have t_y_5 : y_5.toInt = ((mm_ig v_limit (0 : Int32))).toInt := by rw [h_y_5]
    refine wp_if (fun c_6 => ?_) (fun c_6 => ?_)
    ·
      have dc_6 := i_eq c_6
      exact wp_so6 ⟨h_0, h_1, h_2, h_3, h_4, h_5, h_6, h_7⟩
    ·
      have dc_6 := i_ne c_6
      have n_8 : (40 : Int32).toInt = 40 := by decide
      refine wp_if (fun c_7 => ?_) (fun c_7 => ?_)
      ·
        have dc_7 := i_eq c_7
        have n_9 : (1 : Int32).toInt = 1 := by decide
        exact sf_X9_limit_39 hN _ _ _ _ _ _ _ _ _ h_0 h_1 h_2 h_3 h_4 h_5 h_6 (by omega) (by omega) (by omega) (by omega)
      ·
        have dc_7 := i_ne c_7
        refine wp_of (uf_X9_limit_89 _ _ _ _ _ _ _ _) ?_
        refine wp_ck (i_inb (by omega) (by omega)) ?_
        refine wp_nm (fun l_20 h_l_20 => ?_)
        have nl_l_20 : l_20.length = 40 := by rw [h_l_20, is_len]; assumption
        refine wp_ck (i_inb (by omega) (by omega)) ?_
        refine wp_nm (fun l_22 h_l_22 => ?_)
        have nl_l_22 : l_22.length = 40 := by rw [h_l_22, is_len]; assumption
        have n_10 : (1 : Int32).toInt = 1 := by decide
        refine wp_nm (fun y_23 h_y_23 => ?_)
        have e_11 := i_addE h_y_23.symm (by omega) (by omega)
        refine wp_ck (i_inb (by omega) (by omega)) ?_
        refine wp_nm (fun l_25 h_l_25 => ?_)
        have nl_l_25 : l_25.length = 1 := by rw [h_l_25, is_len]; assumption
        exact wp_so6 ⟨(by omega), (by omega), (by omega), (by omega), nl_l_25, nl_l_20, nl_l_22, (by omega)⟩
  ·
    refine wp_ifp (by decide) ?_
    exact wp_so6 ⟨h_0, h_1, h_2, h_3, h_4, h_5, h_6, h_7⟩

theorem uf_X9_undo (N : Nat) (v_done : Int32) (v_limit : List Int32) (v_changeWas : List Int32) : fX9_undo N v_done v_limit v_changeWas = if v_done = 0 then
    (some ((-5 : Int32), v_done, v_limit))
    else (mm_nm ((v_done - (1 : Int32))) (fun (y_2 : Int32) =>
    mm_ck (mm_inb y_2 v_changeWas.length) (mm_nm ((mm_ig v_changeWas y_2)) (fun (y_4 : Int32) =>
    mm_ck (mm_inb (0 : Int32) v_limit.length) (mm_nm (mm_is v_limit (0 : Int32) y_4) (fun (l_6 : List Int32) =>
    some (y_2, y_2, l_6))))))) := rfl

set_option maxHeartbeats 4000000 in
set_option maxRecDepth 20000 in
theorem sf_X9_undo {N : Nat} (hN : 700 ≤ N) {v_done : Int32} {v_limit : List Int32} {v_changeWas : List Int32} (h_0 : 0 ≤ v_done.toInt) (h_1 : v_done.toInt ≤ 40) (h_2 : v_limit.length = 1) (h_3 : v_changeWas.length = 40) : wp (fX9_undo N v_done v_limit v_changeWas) (cu3 (fun (r : Int32) (wv_done : Int32) (wv_limit : List Int32) => 0 ≤ wv_done.toInt ∧ wv_done.toInt ≤ 40 ∧ wv_limit.length = 1 ∧ wv_done.toInt ≤ v_done.toInt)) := by
  refine wp_of (uf_X9_undo _ _ _ _) ?_
  have n_2 : (0 : Int32).toInt = 0 := by decide
  refine wp_if (fun c_1 => ?_) (fun c_1 => ?_)
  ·
    have dc_1 := i_eq c_1
    exact wp_so3 ⟨h_0, h_1, h_2, (by omega)⟩
  ·
    have dc_1 := i_ne c_1
    have n_3 : (1 : Int32).toInt = 1 := by decide
    refine wp_nm (fun y_2 h_y_2 => ?_)
    have e_4 := i_subE h_y_2.symm (by omega) (by omega)
    refine wp_ck (i_inb (by omega) (by omega)) ?_
    refine wp_nm (fun y_4 h_y_4 => ?_)
    have t_y_4 : y_4.toInt = ((mm_ig v_changeWas y_2)).toInt := by rw [h_y_4]
    refine wp_ck (i_inb (by omega) (by omega)) ?_
    refine wp_nm (fun l_6 h_l_6 => ?_)
    have nl_l_6 : l_6.length = 1 := by rw [h_l_6, is_len]; assumption
    exact wp_so3 ⟨(by omega), (by omega), nl_l_6, (by omega)⟩

theorem uf_X9_redo (N : Nat) (v_keptMany : Int32) (v_done : Int32) (v_limit : List Int32) (v_changeIs : List Int32) : fX9_redo N v_keptMany v_done v_limit v_changeIs = if v_done = v_keptMany then
    (some ((-5 : Int32), v_done, v_limit))
    else (mm_ck (mm_inb v_done v_changeIs.length) (mm_nm ((mm_ig v_changeIs v_done)) (fun (y_3 : Int32) =>
    mm_ck (mm_inb (0 : Int32) v_limit.length) (mm_nm (mm_is v_limit (0 : Int32) y_3) (fun (l_5 : List Int32) =>
    mm_nm ((v_done + (1 : Int32))) (fun (y_6 : Int32) =>
    some ((v_keptMany - y_6), y_6, l_5))))))) := rfl

set_option maxHeartbeats 4000000 in
set_option maxRecDepth 20000 in
theorem sf_X9_redo {N : Nat} (hN : 700 ≤ N) {v_keptMany : Int32} {v_done : Int32} {v_limit : List Int32} {v_changeIs : List Int32} (h_0 : 0 ≤ v_keptMany.toInt) (h_1 : v_keptMany.toInt ≤ 40) (h_2 : 0 ≤ v_done.toInt) (h_3 : v_done.toInt ≤ 40) (h_4 : v_limit.length = 1) (h_5 : v_changeIs.length = 40) (h_6 : v_done.toInt ≤ v_keptMany.toInt) : wp (fX9_redo N v_keptMany v_done v_limit v_changeIs) (cu3 (fun (r : Int32) (wv_done : Int32) (wv_limit : List Int32) => 0 ≤ wv_done.toInt ∧ wv_done.toInt ≤ 40 ∧ wv_limit.length = 1 ∧ wv_done.toInt ≤ v_keptMany.toInt)) := by
  refine wp_of (uf_X9_redo _ _ _ _ _) ?_
  refine wp_if (fun c_1 => ?_) (fun c_1 => ?_)
  ·
    have dc_1 := i_eq c_1
    exact wp_so3 ⟨h_2, h_3, h_4, h_6⟩
  ·
    have dc_1 := i_ne c_1
    refine wp_ck (i_inb (by omega) (by omega)) ?_
    refine wp_nm (fun y_3 h_y_3 => ?_)
    have t_y_3 : y_3.toInt = ((mm_ig v_changeIs v_done)).toInt := by rw [h_y_3]
    have n_2 : (0 : Int32).toInt = 0 := by decide
    refine wp_ck (i_inb (by omega) (by omega)) ?_
    refine wp_nm (fun l_5 h_l_5 => ?_)
    have nl_l_5 : l_5.length = 1 := by rw [h_l_5, is_len]; assumption
    have n_3 : (1 : Int32).toInt = 1 := by decide
    refine wp_nm (fun y_6 h_y_6 => ?_)
    have e_4 := i_addE h_y_6.symm (by omega) (by omega)
    exact wp_so3 ⟨(by omega), (by omega), nl_l_5, (by omega)⟩

theorem uf_X9_feed (N : Nat) (x1 : Int32) (v_tapeMany : Int32) (v_tape : List Int32) : fX9_feed N x1 v_tapeMany v_tape = mm_bd1 (fX9_within N ((x1).toInt64) (0 : Int64) (255 : Int64)) (fun (r_1 : Bool) =>
    if r_1 = false then
    (some ((-1 : Int32), v_tapeMany, v_tape))
    else (if v_tapeMany = (120 : Int32) then
    (some ((-3 : Int32), v_tapeMany, v_tape))
    else (mm_ck (mm_inb v_tapeMany v_tape.length) (mm_nm (mm_is v_tape v_tapeMany x1) (fun (l_6 : List Int32) =>
    mm_nm ((v_tapeMany + (1 : Int32))) (fun (y_7 : Int32) =>
    some (y_7, y_7, l_6))))))) := rfl

set_option maxHeartbeats 4000000 in
set_option maxRecDepth 20000 in
theorem sf_X9_feed {N : Nat} (hN : 700 ≤ N) {x1 : Int32} {v_tapeMany : Int32} {v_tape : List Int32} (h_0 : 0 ≤ v_tapeMany.toInt) (h_1 : v_tapeMany.toInt ≤ 120) (h_2 : v_tape.length = 120) : wp (fX9_feed N x1 v_tapeMany v_tape) (cu3 (fun (r : Int32) (wv_tapeMany : Int32) (wv_tape : List Int32) => 0 ≤ wv_tapeMany.toInt ∧ wv_tapeMany.toInt ≤ 120 ∧ wv_tape.length = 120)) := by
  refine wp_of (uf_X9_feed _ _ _ _) ?_
  have n_1 := i_64 x1
  have n_2 : (0 : Int64).toInt = 0 := by decide
  have n_3 : (255 : Int64).toInt = 255 := by decide
  refine wp_bd1 (sf_X9_within hN ) (fun r_1 q_4 => ?_)
  rcases q_4 with ⟨rfl, q_4⟩ | ⟨rfl, q_4⟩
  ·
    refine wp_ifn (by decide) ?_
    have n_6 : (120 : Int32).toInt = 120 := by decide
    refine wp_if (fun c_5 => ?_) (fun c_5 => ?_)
    ·
      have dc_5 := i_eq c_5
      exact wp_so3 ⟨h_0, h_1, h_2⟩
    ·
      have dc_5 := i_ne c_5
      refine wp_ck (i_inb (by omega) (by omega)) ?_
      refine wp_nm (fun l_6 h_l_6 => ?_)
      have nl_l_6 : l_6.length = 120 := by rw [h_l_6, is_len]; assumption
      have n_7 : (1 : Int32).toInt = 1 := by decide
      refine wp_nm (fun y_7 h_y_7 => ?_)
      have e_8 := i_addE h_y_7.symm (by omega) (by omega)
      exact wp_so3 ⟨(by omega), (by omega), nl_l_6⟩
  ·
    refine wp_ifp (by decide) ?_
    exact wp_so3 ⟨h_0, h_1, h_2⟩
