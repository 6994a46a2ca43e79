/-! safe -/
theorem uf_X2_write (N : Nat) (x1 : Int32) (v_size : Int32) (v_tape : List Int32) : fX2_write N x1 v_size v_tape = if v_size < (120 : Int32) then
    (mm_ck (mm_inb v_size v_tape.length) (mm_nm (mm_is v_tape v_size x1) (fun (l_3 : List Int32) =>
    mm_nm ((v_size + (1 : Int32))) (fun (y_4 : Int32) =>
    some (true, y_4, l_3)))))
    else (some (false, v_size, v_tape)) := rfl

set_option maxHeartbeats 4000000 in
set_option maxRecDepth 20000 in
theorem sf_X2_write {N : Nat} (hN : 700 ≤ N) {x1 : Int32} {v_size : Int32} {v_tape : List Int32} (h_0 : 0 ≤ v_size.toInt) (h_1 : v_size.toInt ≤ 120) (h_2 : v_tape.length = 120) : wp (fX2_write N x1 v_size v_tape) (cu3 (fun (r : Bool) (wv_size : Int32) (wv_tape : List Int32) => 0 ≤ wv_size.toInt ∧ wv_size.toInt ≤ 120 ∧ wv_tape.length = 120)) := by
  refine wp_of (uf_X2_write _ _ _ _) ?_
  have n_2 : (120 : Int32).toInt = 120 := by decide
  refine wp_if (fun c_1 => ?_) (fun c_1 => ?_)
  ·
    have dc_1 := i_lt c_1
    refine wp_ck (i_inb (by omega) (by omega)) ?_
    refine wp_nm (fun l_3 h_l_3 => ?_)
    have nl_l_3 : l_3.length = 120 := by rw [h_l_3, is_len]; assumption
    have n_3 : (1 : Int32).toInt = 1 := by decide
    refine wp_nm (fun y_4 h_y_4 => ?_)
    have e_4 := i_addE h_y_4.symm (by omega) (by omega)
    exact wp_so3 ⟨(by omega), (by omega), nl_l_3⟩
  ·
    have dc_1 := i_nlt c_1
    exact wp_so3 ⟨h_0, h_1, h_2⟩

theorem uf_X2_fail (N : Nat) (v_place : Int32) (v_fault : Int32) : fX2_fail N v_place v_fault = if 0 ≤ v_fault then
    (some (v_fault))
    else (some (v_place)) := rfl

set_option maxHeartbeats 4000000 in
set_option maxRecDepth 20000 in
theorem sf_X2_fail {N : Nat} (hN : 700 ≤ N) {v_place : Int32} {v_fault : Int32}  : wp (fX2_fail N v_place v_fault) (fun (wv_fault : Int32) => True) := by
  refine wp_of (uf_X2_fail _ _ _) ?_
  have n_2 : (0 : Int32).toInt = 0 := by decide
  refine wp_if (fun c_1 => ?_) (fun c_1 => ?_)
  ·
    have dc_1 := i_le c_1
    exact wp_so1 trivial
  ·
    have dc_1 := i_nle c_1
    exact wp_so1 trivial

theorem uf_X2_meets (N : Nat) (x1 : Int32) (v_size : Int32) (v_place : Int32) (v_fault : Int32) (v_tape : List Int32) : fX2_meets N x1 v_size v_place v_fault v_tape = if 0 ≤ v_fault then
    (some (false))
    else (mm_bd1 (fX2_next N v_size v_place v_tape) (fun (r_2 : Int32) =>
    if r_2 = x1 then
    (some (true))
    else (some (false)))) := rfl

theorem uf_X2_next (N : Nat) (v_size : Int32) (v_place : Int32) (v_tape : List Int32) : fX2_next N v_size v_place v_tape = if v_size ≤ v_place then
    (some ((-1 : Int32)))
    else (mm_ck (mm_inb v_place v_tape.length) (some ((mm_ig v_tape v_place)))) := rfl

set_option maxHeartbeats 4000000 in
set_option maxRecDepth 20000 in
theorem sf_X2_meets {N : Nat} (hN : 700 ≤ N) {x1 : Int32} {v_size : Int32} {v_place : Int32} {v_fault : Int32} {v_tape : List Int32} (h_0 : 0 ≤ v_size.toInt) (h_1 : v_size.toInt ≤ 120) (h_2 : v_tape.length = 120) (h_3 : 0 ≤ v_place.toInt) (h_4 : 0 ≤ x1.toInt) : wp (fX2_meets N x1 v_size v_place v_fault v_tape) (fun (r : Bool) => ((r = true ∧ v_place.toInt < v_size.toInt) ∨ (r = false ∧ True))) := by
  refine wp_of (uf_X2_meets _ _ _ _ _ _) ?_
  have n_2 : (0 : Int32).toInt = 0 := by decide
  refine wp_if (fun c_1 => ?_) (fun c_1 => ?_)
  ·
    have dc_1 := i_le c_1
    exact wp_so1 (by first | exact Or.inl ⟨rfl, by first | trivial | omega⟩ | exact Or.inr ⟨rfl, by first | trivial | omega⟩)
  ·
    have dc_1 := i_nle c_1
    refine wp_in1 ?_
    refine wp_of (uf_X2_next _ _ _ _) ?_
    refine wp_if (fun c_3 => ?_) (fun c_3 => ?_)
    ·
      have dc_3 := i_le c_3
      refine wp_so1 ?_
      show wp _ _
      have n_5 : (-1 : Int32).toInt = -1 := by decide
      refine wp_if (fun c_4 => ?_) (fun c_4 => ?_)
      ·
        have dc_4 := i_eq c_4
        exact wp_so1 (by first | exact Or.inl ⟨rfl, by first | trivial | omega⟩ | exact Or.inr ⟨rfl, by first | trivial | omega⟩)
      ·
        have dc_4 := i_ne c_4
        exact wp_so1 (by first | exact Or.inl ⟨rfl, by first | trivial | omega⟩ | exact Or.inr ⟨rfl, by first | trivial | omega⟩)
    ·
      have dc_3 := i_nle c_3
      refine wp_ck (i_inb (by omega) (by omega)) ?_
      refine wp_so1 ?_
      show wp _ _
      refine wp_if (fun c_6 => ?_) (fun c_6 => ?_)
      ·
        have dc_6 := i_eq c_6
        exact wp_so1 (by first | exact Or.inl ⟨rfl, by first | trivial | omega⟩ | exact Or.inr ⟨rfl, by first | trivial | omega⟩)
      ·
        have dc_6 := i_ne c_6
        exact wp_so1 (by first | exact Or.inl ⟨rfl, by first | trivial | omega⟩ | exact Or.inr ⟨rfl, by first | trivial | omega⟩)

theorem uf_X2_note (N : Nat) (x1 : Int32) (v_draftCount : Int32) (v_draft : List Int32) : fX2_note N x1 v_draftCount v_draft = if (121 : Int32) ≤ v_draftCount then
    (some (v_draftCount, v_draft))
    else (mm_ck (mm_inb v_draftCount v_draft.length) (mm_nm (mm_is v_draft v_draftCount x1) (fun (l_3 : List Int32) =>
    mm_nm ((v_draftCount + (1 : Int32))) (fun (y_4 : Int32) =>
    some (y_4, l_3))))) := rfl

set_option maxHeartbeats 4000000 in
set_option maxRecDepth 20000 in
theorem sf_X2_note {N : Nat} (hN : 700 ≤ N) {x1 : Int32} {v_draftCount : Int32} {v_draft : List Int32} (h_0 : 0 ≤ v_draftCount.toInt) (h_1 : v_draftCount.toInt ≤ 121) (h_2 : v_draft.length = 121) : wp (fX2_note N x1 v_draftCount v_draft) (cu2 (fun (wv_draftCount : Int32) (wv_draft : List Int32) => 0 ≤ wv_draftCount.toInt ∧ wv_draftCount.toInt ≤ 121 ∧ wv_draft.length = 121)) := by
  refine wp_of (uf_X2_note _ _ _ _) ?_
  have n_2 : (121 : Int32).toInt = 121 := by decide
  refine wp_if (fun c_1 => ?_) (fun c_1 => ?_)
  ·
    have dc_1 := i_le c_1
    exact wp_so2 ⟨h_0, h_1, h_2⟩
  ·
    have dc_1 := i_nle c_1
    refine wp_ck (i_inb (by omega) (by omega)) ?_
    refine wp_nm (fun l_3 h_l_3 => ?_)
    have nl_l_3 : l_3.length = 121 := by rw [h_l_3, is_len]; assumption
    have n_3 : (1 : Int32).toInt = 1 := by decide
    refine wp_nm (fun y_4 h_y_4 => ?_)
    have e_4 := i_addE h_y_4.symm (by omega) (by omega)
    exact wp_so2 ⟨(by omega), (by omega), nl_l_3⟩

theorem uf_X2_isDigit (N : Nat) (x0 : Int32) : fX2_isDigit N x0 = if x0 < (48 : Int32) then
    (some (false))
    else (if (57 : Int32) < x0 then
    (some (false))
    else (some (true))) := rfl

theorem uf_X2_readNumber_4 (N : Nat) (n : Nat) (x1 : Int32) (x2 : Int32) (v_size : Int32) (v_draftCount : Int32) (v_place : Int32) (v_tape : List Int32) (v_draft : List Int32) : fX2_readNumber_4 N (n + 1) x1 x2 v_size v_draftCount v_place v_tape v_draft = 
    if (4 : Int32) ≤ x2 then
    (fX2_readNumber_48 N x1 v_size v_draftCount v_place v_tape v_draft)
    else (mm_bd1 (fX2_next N v_size v_place v_tape) (fun (r_2 : Int32) =>
    mm_bd1 (fX2_isDigit N r_2) (fun (r_4 : Bool) =>
    if r_4 = false then
    (fX2_readNumber_48 N x1 v_size v_draftCount v_place v_tape v_draft)
    else (mm_bd1 (fX2_next N v_size v_place v_tape) (fun (r_7 : Int32) =>
    mm_nm ((((x1 * (10 : Int32)) + r_7) - (48 : Int32))) (fun (y_9 : Int32) =>
    mm_nm ((v_place + (1 : Int32))) (fun (y_10 : Int32) =>
    mm_nm (x2 + (1 : Int32)) (fun (y_11 : Int32) =>
    fX2_readNumber_4 N n y_9 y_11 v_size v_draftCount y_10 v_tape v_draft)))))))) := rfl

theorem uf_X2_readNumber_48 (N : Nat) (x1 : Int32) (v_size : Int32) (v_draftCount : Int32) (v_place : Int32) (v_tape : List Int32) (v_draft : List Int32) : fX2_readNumber_48 N x1 v_size v_draftCount v_place v_tape v_draft = mm_bd2 (fX2_note N ((1000 : Int32) + x1) v_draftCount v_draft) (fun (w_12 : Int32) (w_13 : List Int32) =>
    some (w_12, v_place, w_13)) := rfl

set_option maxHeartbeats 4000000 in
set_option maxRecDepth 20000 in
theorem sf_X2_readNumber_4 {N : Nat} (hN : 700 ≤ N)  : ∀ (n : Nat) (x1 : Int32) (x2 : Int32) (v_size : Int32) (v_draftCount : Int32) (v_place : Int32) (v_tape : List Int32) (v_draft : List Int32), 0 ≤ v_size.toInt → v_size.toInt ≤ 120 → 0 ≤ v_draftCount.toInt → v_draftCount.toInt ≤ 121 → v_tape.length = 120 → v_draft.length = 121 → 0 ≤ v_place.toInt → v_place.toInt ≤ v_size.toInt → 0 ≤ x2.toInt → x2.toInt ≤ 4 → (4 - x2.toInt).toNat < n → wp (fX2_readNumber_4 N n x1 x2 v_size v_draftCount v_place v_tape v_draft) (cu3 (fun (wv_draftCount : Int32) (wv_place : Int32) (wv_draft : List Int32) => 0 ≤ wv_draftCount.toInt ∧ wv_draftCount.toInt ≤ 121 ∧ wv_draft.length = 121 ∧ v_place.toInt ≤ wv_place.toInt ∧ wv_place.toInt ≤ v_size.toInt)) := by
  intro n
  induction n with
  | zero =>
    intro x1 x2 v_size v_draftCount v_place v_tape v_draft h_0 h_1 h_2 h_3 h_4 h_5 h_6 h_7 h_8 h_9 hm
    exact absurd hm (by omega)
  | succ n ih =>
    intro x1 x2 v_size v_draftCount v_place v_tape v_draft h_0 h_1 h_2 h_3 h_4 h_5 h_6 h_7 h_8 h_9 hm
    refine wp_of (uf_X2_readNumber_4 _ _ _ _ _ _ _ _ _) ?_
    have n_2 : (4 : Int32).toInt = 4 := by decide
    refine wp_if (fun c_1 => ?_) (fun c_1 => ?_)
    ·
      have dc_1 := i_le c_1
      refine wp_of (uf_X2_readNumber_48 _ _ _ _ _ _ _) ?_
      refine wp_bd2 (sf_X2_note hN h_2 h_3 h_5) (fun w_12 w_13 ⟨q_3, q_4, q_5⟩ => ?_)
      exact wp_so3 ⟨q_3, q_4, q_5, (by omega), h_7⟩
    ·
      have dc_1 := i_nle c_1
      refine wp_in1 ?_
      refine wp_of (uf_X2_next _ _ _ _) ?_
      refine wp_if (fun c_6 => ?_) (fun c_6 => ?_)
      ·
        have dc_6 := i_le c_6
        refine wp_so1 ?_
        show wp _ _
        refine wp_in1 ?_
        refine wp_of (uf_X2_isDigit _ _) ?_
        refine wp_ifp (by decide) ?_
        refine wp_so1 ?_
        show wp _ _
        refine wp_ifp (by decide) ?_
        refine wp_of (uf_X2_readNumber_48 _ _ _ _ _ _ _) ?_
        refine wp_bd2 (sf_X2_note hN h_2 h_3 h_5) (fun w_12__7 w_13__8 ⟨q_9, q_10, q_11⟩ => ?_)
        exact wp_so3 ⟨q_9, q_10, q_11, (by omega), h_7⟩
      ·
        have dc_6 := i_nle c_6
        refine wp_ck (i_inb (by omega) (by omega)) ?_
        refine wp_so1 ?_
        show wp _ _
        refine wp_in1 ?_
        refine wp_of (uf_X2_isDigit _ _) ?_
        have n_13 : (48 : Int32).toInt = 48 := by decide
        refine wp_if (fun c_12 => ?_) (fun c_12 => ?_)
        ·
          have dc_12 := i_lt c_12
          refine wp_so1 ?_
          show wp _ _
          refine wp_ifp (by decide) ?_
          refine wp_of (uf_X2_readNumber_48 _ _ _ _ _ _ _) ?_
          refine wp_bd2 (sf_X2_note hN h_2 h_3 h_5) (fun w_12__14 w_13__15 ⟨q_16, q_17, q_18⟩ => ?_)
          exact wp_so3 ⟨q_16, q_17, q_18, (by omega), h_7⟩
        ·
          have dc_12 := i_nlt c_12
          have n_20 : (57 : Int32).toInt = 57 := by decide
          refine wp_if (fun c_19 => ?_) (fun c_19 => ?_)
          ·
            have dc_19 := i_lt c_19
            refine wp_so1 ?_
            show wp _ _
            refine wp_ifp (by decide) ?_
            refine wp_of (uf_X2_readNumber_48 _ _ _ _ _ _ _) ?_
            refine wp_bd2 (sf_X2_note hN h_2 h_3 h_5) (fun w_12__21 w_13__22 ⟨q_23, q_24, q_25⟩ => ?_)
            exact wp_so3 ⟨q_23, q_24, q_25, (by omega), h_7⟩
          ·
            have dc_19 := i_nlt c_19
            refine wp_so1 ?_
            show wp _ _
            refine wp_ifn (by decide) ?_
            refine wp_in1 ?_
            refine wp_of (uf_X2_next _ _ _ _) ?_
            refine wp_ifn c_6 ?_
            refine wp_ck (i_inb (by omega) (by omega)) ?_
            refine wp_so1 ?_
            show wp _ _
            refine wp_nm (fun y_9 _ => ?_)
            have n_26 : (1 : Int32).toInt = 1 := by decide
            refine wp_nm (fun y_10 h_y_10 => ?_)
            have e_27 := i_addE h_y_10.symm (by omega) (by omega)
            refine wp_nm (fun y_11 h_y_11 => ?_)
            have e_28 := i_addE h_y_11.symm (by omega) (by omega)
            refine wp_cu3 (ih _ _ _ _ _ _ _ h_0 h_1 h_2 h_3 h_4 h_5 (by omega) (by omega) (by omega) (by omega) (by omega)) (fun z_wv_draftCount z_wv_place z_wv_draft ⟨q_29, q_30, q_31, q_32, q_33⟩ => ?_)
            exact ⟨(by omega), (by omega), (by assumption), (by omega), (by omega)⟩

theorem uf_X2_readNumber (N : Nat) (v_size : Int32) (v_draftCount : Int32) (v_place : Int32) (v_tape : List Int32) (v_draft : List Int32) : fX2_readNumber N v_size v_draftCount v_place v_tape v_draft = fX2_readNumber_4 N N (0 : Int32) (0 : Int32) v_size v_draftCount v_place v_tape v_draft := rfl

set_option maxHeartbeats 4000000 in
set_option maxRecDepth 20000 in
theorem sf_X2_readNumber {N : Nat} (hN : 700 ≤ N) {v_size : Int32} {v_draftCount : Int32} {v_place : Int32} {v_tape : List Int32} {v_draft : List Int32} (h_0 : 0 ≤ v_size.toInt) (h_1 : v_size.toInt ≤ 120) (h_2 : 0 ≤ v_draftCount.toInt) (h_3 : v_draftCount.toInt ≤ 121) (h_4 : v_tape.length = 120) (h_5 : v_draft.length = 121) (h_6 : 0 ≤ v_place.toInt) (h_7 : v_place.toInt ≤ v_size.toInt) : wp (fX2_readNumber N v_size v_draftCount v_place v_tape v_draft) (cu3 (fun (wv_draftCount : Int32) (wv_place : Int32) (wv_draft : List Int32) => 0 ≤ wv_draftCount.toInt ∧ wv_draftCount.toInt ≤ 121 ∧ wv_draft.length = 121 ∧ v_place.toInt ≤ wv_place.toInt ∧ wv_place.toInt ≤ v_size.toInt)) := by
  refine wp_of (uf_X2_readNumber _ _ _ _ _ _) ?_
  have n_1 : (0 : Int32).toInt = 0 := by decide
  refine wp_cu3 (sf_X2_readNumber_4 hN _ _ _ _ _ _ _ _ h_0 h_1 h_2 h_3 h_4 h_5 h_6 h_7 (by omega) (by omega) (by omega)) (fun z_wv_draftCount z_wv_place z_wv_draft ⟨q_2, q_3, q_4, q_5, q_6⟩ => ?_)
  exact ⟨(by omega), (by omega), (by assumption), (by omega), (by omega)⟩

theorem uf_X2_readProduct_40 (N : Nat) (go : Int32 → Int32 → Int32 → Int32 → Int32 → List Int32 → List Int32 → Option (Int32 × Int32 × Int32 × List Int32)) (k_7 : Int32 → Int32 → Int32 → Int32 → Int32 → Int32 → List Int32 → List Int32 → Option (Int32 × Int32 × Int32 × List Int32)) (x1 : Int32) (x2 : Int32) (v_size : Int32) (v_draftCount : Int32) (v_place : Int32) (v_fault : Int32) (v_tape : List Int32) (v_draft : List Int32) : fX2_readProduct_40 N go k_7 x1 x2 v_size v_draftCount v_place v_fault v_tape v_draft = mm_bd1 (fX2_next N v_size v_place v_tape) (fun (r_16 : Int32) =>
    mm_nm ((v_place + (1 : Int32))) (fun (y_18 : Int32) =>
    mm_bd4 (go x1 v_size v_draftCount y_18 v_fault v_tape v_draft) (fun (w_19 : Int32) (w_20 : Int32) (w_21 : Int32) (w_22 : List Int32) =>
    mm_bd2 (fX2_note N r_16 w_19 w_22) (fun (w_24 : Int32) (w_25 : List Int32) =>
    mm_nm (x2 + (1 : Int32)) (fun (y_27 : Int32) =>
    k_7 x1 y_27 v_size w_24 w_20 w_21 v_tape w_25))))) := rfl

theorem uf_X2_readProduct_7 (N : Nat) (go : Int32 → Int32 → Int32 → Int32 → Int32 → List Int32 → List Int32 → Option (Int32 × Int32 × Int32 × List Int32)) (n : Nat) (x1 : Int32) (x2 : Int32) (v_size : Int32) (v_draftCount : Int32) (v_place : Int32) (v_fault : Int32) (v_tape : List Int32) (v_draft : List Int32) : fX2_readProduct_7 N go (n + 1) x1 x2 v_size v_draftCount v_place v_fault v_tape v_draft = 
    if (120 : Int32) ≤ x2 then
    (some (v_draftCount, v_place, v_fault, v_draft))
    else (mm_bd1 (fX2_meets N (42 : Int32) v_size v_place v_fault v_tape) (fun (r_7 : Bool) =>
    if r_7 = false then
    (mm_bd1 (fX2_meets N (47 : Int32) v_size v_place v_fault v_tape) (fun (r_10 : Bool) =>
    if r_10 = false then
    (mm_bd1 (fX2_meets N (37 : Int32) v_size v_place v_fault v_tape) (fun (r_13 : Bool) =>
    if r_13 = false then
    (some (v_draftCount, v_place, v_fault, v_draft))
    else (fX2_readProduct_40 N go (fX2_readProduct_7 N go n) x1 x2 v_size v_draftCount v_place v_fault v_tape v_draft)))
    else (fX2_readProduct_40 N go (fX2_readProduct_7 N go n) x1 x2 v_size v_draftCount v_place v_fault v_tape v_draft)))
    else (fX2_readProduct_40 N go (fX2_readProduct_7 N go n) x1 x2 v_size v_draftCount v_place v_fault v_tape v_draft))) := rfl

set_option maxHeartbeats 4000000 in
set_option maxRecDepth 20000 in
theorem sf_X2_readProduct_7 {N : Nat} (hN : 700 ≤ N) {K : Int} {go : Int32 → Int32 → Int32 → Int32 → Int32 → List Int32 → List Int32 → Option (Int32 × Int32 × Int32 × List Int32)} (hgo : ∀ (x1 : Int32) (v_size : Int32) (v_draftCount : Int32) (v_place : Int32) (v_fault : Int32) (v_tape : List Int32) (v_draft : List Int32), 0 ≤ v_size.toInt → v_size.toInt ≤ 120 → 0 ≤ v_draftCount.toInt → v_draftCount.toInt ≤ 121 → v_tape.length = 120 → v_draft.length = 121 → 0 ≤ v_place.toInt → v_place.toInt ≤ v_size.toInt → 0 ≤ x1.toInt → x1.toInt ≤ 6 → K ≤ x1.toInt → wp (go x1 v_size v_draftCount v_place v_fault v_tape v_draft) (cu4 (fun (wv_draftCount : Int32) (wv_place : Int32) (wv_fault : Int32) (wv_draft : List Int32) => 0 ≤ wv_draftCount.toInt ∧ wv_draftCount.toInt ≤ 121 ∧ wv_draft.length = 121 ∧ v_place.toInt ≤ wv_place.toInt ∧ wv_place.toInt ≤ v_size.toInt))) : ∀ (n : Nat) (x1 : Int32) (x2 : Int32) (v_size : Int32) (v_draftCount : Int32) (v_place : Int32) (v_fault : Int32) (v_tape : List Int32) (v_draft : List Int32), 0 ≤ v_size.toInt → v_size.toInt ≤ 120 → 0 ≤ v_draftCount.toInt → v_draftCount.toInt ≤ 121 → v_tape.length = 120 → v_draft.length = 121 → 0 ≤ v_place.toInt → v_place.toInt ≤ v_size.toInt → 0 ≤ x1.toInt → x1.toInt ≤ 6 → K ≤ x1.toInt → 0 ≤ x2.toInt → x2.toInt ≤ 120 → (120 - x2.toInt).toNat < n → wp (fX2_readProduct_7 N go n x1 x2 v_size v_draftCount v_place v_fault v_tape v_draft) (cu4 (fun (wv_draftCount : Int32) (wv_place : Int32) (wv_fault : Int32) (wv_draft : List Int32) => 0 ≤ wv_draftCount.toInt ∧ wv_draftCount.toInt ≤ 121 ∧ wv_draft.length = 121 ∧ v_place.toInt ≤ wv_place.toInt ∧ wv_place.toInt ≤ v_size.toInt)) := by
  intro n
  induction n with
  | zero =>
    intro x1 x2 v_size v_draftCount v_place v_fault v_tape v_draft h_0 h_1 h_2 h_3 h_4 h_5 h_6 h_7 h_8 h_9 h_10 h_11 h_12 hm
    exact absurd hm (by omega)
  | succ n ih =>
    intro x1 x2 v_size v_draftCount v_place v_fault v_tape v_draft h_0 h_1 h_2 h_3 h_4 h_5 h_6 h_7 h_8 h_9 h_10 h_11 h_12 hm
    refine wp_of (uf_X2_readProduct_7 _ _ _ _ _ _ _ _ _ _ _) ?_
    have n_2 : (120 : Int32).toInt = 120 := by decide
    refine wp_if (fun c_1 => ?_) (fun c_1 => ?_)
    ·
      have dc_1 := i_le c_1
      exact wp_so4 ⟨h_2, h_3, h_5, (by omega), h_7⟩
    ·
      have dc_1 := i_nle c_1
      have n_3 : (42 : Int32).toInt = 42 := by decide
      refine wp_bd1 (sf_X2_meets hN h_0 h_1 h_4 h_6 (by omega)) (fun r_7 q_4 => ?_)
      rcases q_4 with ⟨rfl, q_4⟩ | ⟨rfl, q_4⟩
      ·
        refine wp_ifn (by decide) ?_
        refine wp_of (uf_X2_readProduct_40 _ _ _ _ _ _ _ _ _ _ _) ?_
        refine wp_in1 ?_
        refine wp_of (uf_X2_next _ _ _ _) ?_
        refine wp_if (fun c_5 => ?_) (fun c_5 => ?_)
        ·
          have dc_5 := i_le c_5
          refine wp_so1 ?_
          show wp _ _
          have n_6 : (1 : Int32).toInt = 1 := by decide
          refine wp_nm (fun y_18 h_y_18 => ?_)
          have e_7 := i_addE h_y_18.symm (by omega) (by omega)
          refine wp_bd4 (hgo _ _ _ _ _ _ _ h_0 h_1 h_2 h_3 h_4 h_5 (by omega) (by omega) h_8 h_9 h_10) (fun w_19 w_20 w_21 w_22 ⟨q_8, q_9, q_10, q_11, q_12⟩ => ?_)
          refine wp_bd2 (sf_X2_note hN q_8 q_9 q_10) (fun w_24 w_25 ⟨q_13, q_14, q_15⟩ => ?_)
          refine wp_nm (fun y_27 h_y_27 => ?_)
          have e_16 := i_addE h_y_27.symm (by omega) (by omega)
          refine wp_cu4 (ih _ _ _ _ _ _ _ _ h_0 h_1 q_13 q_14 h_4 q_15 (by omega) q_12 h_8 h_9 h_10 (by omega) (by omega) (by omega)) (fun z_wv_draftCount z_wv_place z_wv_fault z_wv_draft ⟨q_17, q_18, q_19, q_20, q_21⟩ => ?_)
          exact ⟨(by omega), (by omega), (by assumption), (by omega), (by omega)⟩
        ·
          have dc_5 := i_nle c_5
          refine wp_ck (i_inb (by omega) (by omega)) ?_
          refine wp_so1 ?_
          show wp _ _
          have n_23 : (1 : Int32).toInt = 1 := by decide
          refine wp_nm (fun y_18__22 h_y_18__22 => ?_)
          have e_24 := i_addE h_y_18__22.symm (by omega) (by omega)
          refine wp_bd4 (hgo _ _ _ _ _ _ _ h_0 h_1 h_2 h_3 h_4 h_5 (by omega) (by omega) h_8 h_9 h_10) (fun w_19__25 w_20__26 w_21__27 w_22__28 ⟨q_29, q_30, q_31, q_32, q_33⟩ => ?_)
          refine wp_bd2 (sf_X2_note hN q_29 q_30 q_31) (fun w_24__34 w_25__35 ⟨q_36, q_37, q_38⟩ => ?_)
          refine wp_nm (fun y_27__39 h_y_27__39 => ?_)
          have e_40 := i_addE h_y_27__39.symm (by omega) (by omega)
          refine wp_cu4 (ih _ _ _ _ _ _ _ _ h_0 h_1 q_36 q_37 h_4 q_38 (by omega) q_33 h_8 h_9 h_10 (by omega) (by omega) (by omega)) (fun z_wv_draftCount__41 z_wv_place__42 z_wv_fault__43 z_wv_draft__44 ⟨q_45, q_46, q_47, q_48, q_49⟩ => ?_)
          exact ⟨(by omega), (by omega), (by assumption), (by omega), (by omega)⟩
      ·
        refine wp_ifp (by decide) ?_
        have n_50 : (47 : Int32).toInt = 47 := by decide
        refine wp_bd1 (sf_X2_meets hN h_0 h_1 h_4 h_6 (by omega)) (fun r_10 q_51 => ?_)
        rcases q_51 with ⟨rfl, q_51⟩ | ⟨rfl, q_51⟩
        ·
          refine wp_ifn (by decide) ?_
          refine wp_of (uf_X2_readProduct_40 _ _ _ _ _ _ _ _ _ _ _) ?_
          refine wp_in1 ?_
          refine wp_of (uf_X2_next _ _ _ _) ?_
          refine wp_if (fun c_52 => ?_) (fun c_52 => ?_)
          ·
            have dc_52 := i_le c_52
            refine wp_so1 ?_
            show wp _ _
            have n_54 : (1 : Int32).toInt = 1 := by decide
            refine wp_nm (fun y_18__53 h_y_18__53 => ?_)
            have e_55 := i_addE h_y_18__53.symm (by omega) (by omega)
            refine wp_bd4 (hgo _ _ _ _ _ _ _ h_0 h_1 h_2 h_3 h_4 h_5 (by omega) (by omega) h_8 h_9 h_10) (fun w_19__56 w_20__57 w_21__58 w_22__59 ⟨q_60, q_61, q_62, q_63, q_64⟩ => ?_)
            refine wp_bd2 (sf_X2_note hN q_60 q_61 q_62) (fun w_24__65 w_25__66 ⟨q_67, q_68, q_69⟩ => ?_)
            refine wp_nm (fun y_27__70 h_y_27__70 => ?_)
            have e_71 := i_addE h_y_27__70.symm (by omega) (by omega)
            refine wp_cu4 (ih _ _ _ _ _ _ _ _ h_0 h_1 q_67 q_68 h_4 q_69 (by omega) q_64 h_8 h_9 h_10 (by omega) (by omega) (by omega)) (fun z_wv_draftCount__72 z_wv_place__73 z_wv_fault__74 z_wv_draft__75 ⟨q_76, q_77, q_78, q_79, q_80⟩ => ?_)
            exact ⟨(by omega), (by omega), (by assumption), (by omega), (by omega)⟩
          ·
            have dc_52 := i_nle c_52
            refine wp_ck (i_inb (by omega) (by omega)) ?_
            refine wp_so1 ?_
            show wp _ _
            have n_82 : (1 : Int32).toInt = 1 := by decide
            refine wp_nm (fun y_18__81 h_y_18__81 => ?_)
            have e_83 := i_addE h_y_18__81.symm (by omega) (by omega)
            refine wp_bd4 (hgo _ _ _ _ _ _ _ h_0 h_1 h_2 h_3 h_4 h_5 (by omega) (by omega) h_8 h_9 h_10) (fun w_19__84 w_20__85 w_21__86 w_22__87 ⟨q_88, q_89, q_90, q_91, q_92⟩ => ?_)
            refine wp_bd2 (sf_X2_note hN q_88 q_89 q_90) (fun w_24__93 w_25__94 ⟨q_95, q_96, q_97⟩ => ?_)
            refine wp_nm (fun y_27__98 h_y_27__98 => ?_)
            have e_99 := i_addE h_y_27__98.symm (by omega) (by omega)
            refine wp_cu4 (ih _ _ _ _ _ _ _ _ h_0 h_1 q_95 q_96 h_4 q_97 (by omega) q_92 h_8 h_9 h_10 (by omega) (by omega) (by omega)) (fun z_wv_draftCount__100 z_wv_place__101 z_wv_fault__102 z_wv_draft__103 ⟨q_104, q_105, q_106, q_107, q_108⟩ => ?_)
            exact ⟨(by omega), (by omega), (by assumption), (by omega), (by omega)⟩
        ·
          refine wp_ifp (by decide) ?_
          have n_109 : (37 : Int32).toInt = 37 := by decide
          refine wp_bd1 (sf_X2_meets hN h_0 h_1 h_4 h_6 (by omega)) (fun r_13 q_110 => ?_)
          rcases q_110 with ⟨rfl, q_110⟩ | ⟨rfl, q_110⟩
          ·
            refine wp_ifn (by decide) ?_
            refine wp_of (uf_X2_readProduct_40 _ _ _ _ _ _ _ _ _ _ _) ?_
            refine wp_in1 ?_
            refine wp_of (uf_X2_next _ _ _ _) ?_
            refine wp_if (fun c_111 => ?_) (fun c_111 => ?_)
            ·
              have dc_111 := i_le c_111
              refine wp_so1 ?_
              show wp _ _
              have n_113 : (1 : Int32).toInt = 1 := by decide
              refine wp_nm (fun y_18__112 h_y_18__112 => ?_)
              have e_114 := i_addE h_y_18__112.symm (by omega) (by omega)
              refine wp_bd4 (hgo _ _ _ _ _ _ _ h_0 h_1 h_2 h_3 h_4 h_5 (by omega) (by omega) h_8 h_9 h_10) (fun w_19__115 w_20__116 w_21__117 w_22__118 ⟨q_119, q_120, q_121, q_122, q_123⟩ => ?_)
              refine wp_bd2 (sf_X2_note hN q_119 q_120 q_121) (fun w_24__124 w_25__125 ⟨q_126, q_127, q_128⟩ => ?_)
              refine wp_nm (fun y_27__129 h_y_27__129 => ?_)
              have e_130 := i_addE h_y_27__129.symm (by omega) (by omega)
              refine wp_cu4 (ih _ _ _ _ _ _ _ _ h_0 h_1 q_126 q_127 h_4 q_128 (by omega) q_123 h_8 h_9 h_10 (by omega) (by omega) (by omega)) (fun z_wv_draftCount__131 z_wv_place__132 z_wv_fault__133 z_wv_draft__134 ⟨q_135, q_136, q_137, q_138, q_139⟩ => ?_)
              exact ⟨(by omega), (by omega), (by assumption), (by omega), (by omega)⟩
            ·
              have dc_111 := i_nle c_111
              refine wp_ck (i_inb (by omega) (by omega)) ?_
              refine wp_so1 ?_
              show wp _ _
              have n_141 : (1 : Int32).toInt = 1 := by decide
              refine wp_nm (fun y_18__140 h_y_18__140 => ?_)
              have e_142 := i_addE h_y_18__140.symm (by omega) (by omega)
              refine wp_bd4 (hgo _ _ _ _ _ _ _ h_0 h_1 h_2 h_3 h_4 h_5 (by omega) (by omega) h_8 h_9 h_10) (fun w_19__143 w_20__144 w_21__145 w_22__146 ⟨q_147, q_148, q_149, q_150, q_151⟩ => ?_)
              refine wp_bd2 (sf_X2_note hN q_147 q_148 q_149) (fun w_24__152 w_25__153 ⟨q_154, q_155, q_156⟩ => ?_)
              refine wp_nm (fun y_27__157 h_y_27__157 => ?_)
              have e_158 := i_addE h_y_27__157.symm (by omega) (by omega)
              refine wp_cu4 (ih _ _ _ _ _ _ _ _ h_0 h_1 q_154 q_155 h_4 q_156 (by omega) q_151 h_8 h_9 h_10 (by omega) (by omega) (by omega)) (fun z_wv_draftCount__159 z_wv_place__160 z_wv_fault__161 z_wv_draft__162 ⟨q_163, q_164, q_165, q_166, q_167⟩ => ?_)
              exact ⟨(by omega), (by omega), (by assumption), (by omega), (by omega)⟩
          ·
            refine wp_ifp (by decide) ?_
            exact wp_so4 ⟨h_2, h_3, h_5, (by omega), h_7⟩

theorem uf_X2_readProduct (N : Nat) (go : Int32 → Int32 → Int32 → Int32 → Int32 → List Int32 → List Int32 → Option (Int32 × Int32 × Int32 × List Int32)) (x1 : Int32) (v_size : Int32) (v_draftCount : Int32) (v_place : Int32) (v_fault : Int32) (v_tape : List Int32) (v_draft : List Int32) : fX2_readProduct N go x1 v_size v_draftCount v_place v_fault v_tape v_draft = mm_bd4 (go x1 v_size v_draftCount v_place v_fault v_tape v_draft) (fun (w_1 : Int32) (w_2 : Int32) (w_3 : Int32) (w_4 : List Int32) =>
    fX2_readProduct_7 N go N x1 (0 : Int32) v_size w_1 w_2 w_3 v_tape w_4) := rfl

set_option maxHeartbeats 4000000 in
set_option maxRecDepth 20000 in
theorem sf_X2_readProduct {N : Nat} (hN : 700 ≤ N) {K : Int} {go : Int32 → Int32 → Int32 → Int32 → Int32 → List Int32 → List Int32 → Option (Int32 × Int32 × Int32 × List Int32)} {x1 : Int32} {v_size : Int32} {v_draftCount : Int32} {v_place : Int32} {v_fault : Int32} {v_tape : List Int32} {v_draft : List Int32} (h_0 : 0 ≤ v_size.toInt) (h_1 : v_size.toInt ≤ 120) (h_2 : 0 ≤ v_draftCount.toInt) (h_3 : v_draftCount.toInt ≤ 121) (h_4 : v_tape.length = 120) (h_5 : v_draft.length = 121) (h_6 : 0 ≤ v_place.toInt) (h_7 : v_place.toInt ≤ v_size.toInt) (h_8 : 0 ≤ x1.toInt) (h_9 : x1.toInt ≤ 6) (h_10 : K ≤ x1.toInt) (hgo : ∀ (x1 : Int32) (v_size : Int32) (v_draftCount : Int32) (v_place : Int32) (v_fault : Int32) (v_tape : List Int32) (v_draft : List Int32), 0 ≤ v_size.toInt → v_size.toInt ≤ 120 → 0 ≤ v_draftCount.toInt → v_draftCount.toInt ≤ 121 → v_tape.length = 120 → v_draft.length = 121 → 0 ≤ v_place.toInt → v_place.toInt ≤ v_size.toInt → 0 ≤ x1.toInt → x1.toInt ≤ 6 → K ≤ x1.toInt → wp (go x1 v_size v_draftCount v_place v_fault v_tape v_draft) (cu4 (fun (wv_draftCount : Int32) (wv_place : Int32) (wv_fault : Int32) (wv_draft : List Int32) => 0 ≤ wv_draftCount.toInt ∧ wv_draftCount.toInt ≤ 121 ∧ wv_draft.length = 121 ∧ v_place.toInt ≤ wv_place.toInt ∧ wv_place.toInt ≤ v_size.toInt))) : wp (fX2_readProduct N go x1 v_size v_draftCount v_place v_fault v_tape v_draft) (cu4 (fun (wv_draftCount : Int32) (wv_place : Int32) (wv_fault : Int32) (wv_draft : List Int32) => 0 ≤ wv_draftCount.toInt ∧ wv_draftCount.toInt ≤ 121 ∧ wv_draft.length = 121 ∧ v_place.toInt ≤ wv_place.toInt ∧ wv_place.toInt ≤ v_size.toInt)) := by
  refine wp_of (uf_X2_readProduct _ _ _ _ _ _ _ _ _) ?_
  refine wp_bd4 (hgo _ _ _ _ _ _ _ h_0 h_1 h_2 h_3 h_4 h_5 h_6 h_7 h_8 h_9 h_10) (fun w_1 w_2 w_3 w_4 ⟨q_1, q_2, q_3, q_4, q_5⟩ => ?_)
  have n_6 : (0 : Int32).toInt = 0 := by decide
  refine wp_cu4 (sf_X2_readProduct_7 hN hgo _ _ _ _ _ _ _ _ _ h_0 h_1 q_1 q_2 h_4 q_3 (by omega) q_5 h_8 h_9 h_10 (by omega) (by omega) (by omega)) (fun z_wv_draftCount z_wv_place z_wv_fault z_wv_draft ⟨q_7, q_8, q_9, q_10, q_11⟩ => ?_)
  exact ⟨(by omega), (by omega), (by assumption), (by omega), (by omega)⟩

theorem uf_X2_readSum_31 (N : Nat) (go : Int32 → Int32 → Int32 → Int32 → Int32 → List Int32 → List Int32 → Option (Int32 × Int32 × Int32 × List Int32)) (k_7 : Int32 → Int32 → Int32 → Int32 → Int32 → Int32 → List Int32 → List Int32 → Option (Int32 × Int32 × Int32 × List Int32)) (x1 : Int32) (x2 : Int32) (v_size : Int32) (v_draftCount : Int32) (v_place : Int32) (v_fault : Int32) (v_tape : List Int32) (v_draft : List Int32) : fX2_readSum_31 N go k_7 x1 x2 v_size v_draftCount v_place v_fault v_tape v_draft = mm_bd1 (fX2_next N v_size v_place v_tape) (fun (r_13 : Int32) =>
    mm_nm ((v_place + (1 : Int32))) (fun (y_15 : Int32) =>
    mm_bd4 (fX2_readProduct N go x1 v_size v_draftCount y_15 v_fault v_tape v_draft) (fun (w_16 : Int32) (w_17 : Int32) (w_18 : Int32) (w_19 : List Int32) =>
    mm_bd2 (fX2_note N r_13 w_16 w_19) (fun (w_21 : Int32) (w_22 : List Int32) =>
    mm_nm (x2 + (1 : Int32)) (fun (y_24 : Int32) =>
    k_7 x1 y_24 v_size w_21 w_17 w_18 v_tape w_22))))) := rfl

theorem uf_X2_readSum_7 (N : Nat) (go : Int32 → Int32 → Int32 → Int32 → Int32 → List Int32 → List Int32 → Option (Int32 × Int32 × Int32 × List Int32)) (n : Nat) (x1 : Int32) (x2 : Int32) (v_size : Int32) (v_draftCount : Int32) (v_place : Int32) (v_fault : Int32) (v_tape : List Int32) (v_draft : List Int32) : fX2_readSum_7 N go (n + 1) x1 x2 v_size v_draftCount v_place v_fault v_tape v_draft = 
    if (120 : Int32) ≤ x2 then
    (some (v_draftCount, v_place, v_fault, v_draft))
    else (mm_bd1 (fX2_meets N (43 : Int32) v_size v_place v_fault v_tape) (fun (r_7 : Bool) =>
    if r_7 = false then
    (mm_bd1 (fX2_meets N (45 : Int32) v_size v_place v_fault v_tape) (fun (r_10 : Bool) =>
    if r_10 = false then
    (some (v_draftCount, v_place, v_fault, v_draft))
    else (fX2_readSum_31 N go (fX2_readSum_7 N go n) x1 x2 v_size v_draftCount v_place v_fault v_tape v_draft)))
    else (fX2_readSum_31 N go (fX2_readSum_7 N go n) x1 x2 v_size v_draftCount v_place v_fault v_tape v_draft))) := rfl

set_option maxHeartbeats 4000000 in
set_option maxRecDepth 20000 in
theorem sf_X2_readSum_7 {N : Nat} (hN : 700 ≤ N) {K : Int} {go : Int32 → Int32 → Int32 → Int32 → Int32 → List Int32 → List Int32 → Option (Int32 × Int32 × Int32 × List Int32)} (hgo : ∀ (x1 : Int32) (v_size : Int32) (v_draftCount : Int32) (v_place : Int32) (v_fault : Int32) (v_tape : List Int32) (v_draft : List Int32), 0 ≤ v_size.toInt → v_size.toInt ≤ 120 → 0 ≤ v_draftCount.toInt → v_draftCount.toInt ≤ 121 → v_tape.length = 120 → v_draft.length = 121 → 0 ≤ v_place.toInt → v_place.toInt ≤ v_size.toInt → 0 ≤ x1.toInt → x1.toInt ≤ 6 → K ≤ x1.toInt → wp (go x1 v_size v_draftCount v_place v_fault v_tape v_draft) (cu4 (fun (wv_draftCount : Int32) (wv_place : Int32) (wv_fault : Int32) (wv_draft : List Int32) => 0 ≤ wv_draftCount.toInt ∧ wv_draftCount.toInt ≤ 121 ∧ wv_draft.length = 121 ∧ v_place.toInt ≤ wv_place.toInt ∧ wv_place.toInt ≤ v_size.toInt))) : ∀ (n : Nat) (x1 : Int32) (x2 : Int32) (v_size : Int32) (v_draftCount : Int32) (v_place : Int32) (v_fault : Int32) (v_tape : List Int32) (v_draft : List Int32), 0 ≤ v_size.toInt → v_size.toInt ≤ 120 → 0 ≤ v_draftCount.toInt → v_draftCount.toInt ≤ 121 → v_tape.length = 120 → v_draft.length = 121 → 0 ≤ v_place.toInt → v_place.toInt ≤ v_size.toInt → 0 ≤ x1.toInt → x1.toInt ≤ 6 → K ≤ x1.toInt → 0 ≤ x2.toInt → x2.toInt ≤ 120 → (120 - x2.toInt).toNat < n → wp (fX2_readSum_7 N go n x1 x2 v_size v_draftCount v_place v_fault v_tape v_draft) (cu4 (fun (wv_draftCount : Int32) (wv_place : Int32) (wv_fault : Int32) (wv_draft : List Int32) => 0 ≤ wv_draftCount.toInt ∧ wv_draftCount.toInt ≤ 121 ∧ wv_draft.length = 121 ∧ v_place.toInt ≤ wv_place.toInt ∧ wv_place.toInt ≤ v_size.toInt)) := by
  intro n
  induction n with
  | zero =>
    intro x1 x2 v_size v_draftCount v_place v_fault v_tape v_draft h_0 h_1 h_2 h_3 h_4 h_5 h_6 h_7 h_8 h_9 h_10 h_11 h_12 hm
    exact absurd hm (by omega)
  | succ n ih =>
    intro x1 x2 v_size v_draftCount v_place v_fault v_tape v_draft h_0 h_1 h_2 h_3 h_4 h_5 h_6 h_7 h_8 h_9 h_10 h_11 h_12 hm
    refine wp_of (uf_X2_readSum_7 _ _ _ _ _ _ _ _ _ _ _) ?_
    have n_2 : (120 : Int32).toInt = 120 := by decide
    refine wp_if (fun c_1 => ?_) (fun c_1 => ?_)
    ·
      have dc_1 := i_le c_1
      exact wp_so4 ⟨h_2, h_3, h_5, (by omega), h_7⟩
    ·
      have dc_1 := i_nle c_1
      have n_3 : (43 : Int32).toInt = 43 := by decide
      refine wp_bd1 (sf_X2_meets hN h_0 h_1 h_4 h_6 (by omega)) (fun r_7 q_4 => ?_)
      rcases q_4 with ⟨rfl, q_4⟩ | ⟨rfl, q_4⟩
      ·
        refine wp_ifn (by decide) ?_
        refine wp_of (uf_X2_readSum_31 _ _ _ _ _ _ _ _ _ _ _) ?_
        refine wp_in1 ?_
        refine wp_of (uf_X2_next _ _ _ _) ?_
        refine wp_if (fun c_5 => ?_) (fun c_5 => ?_)
        ·
          have dc_5 := i_le c_5
          refine wp_so1 ?_
          show wp _ _
          have n_6 : (1 : Int32).toInt = 1 := by decide
          refine wp_nm (fun y_15 h_y_15 => ?_)
          have e_7 := i_addE h_y_15.symm (by omega) (by omega)
          refine wp_bd4 (sf_X2_readProduct hN h_0 h_1 h_2 h_3 h_4 h_5 (by omega) (by omega) h_8 h_9 h_10 hgo) (fun w_16 w_17 w_18 w_19 ⟨q_8, q_9, q_10, q_11, q_12⟩ => ?_)
          refine wp_bd2 (sf_X2_note hN q_8 q_9 q_10) (fun w_21 w_22 ⟨q_13, q_14, q_15⟩ => ?_)
          refine wp_nm (fun y_24 h_y_24 => ?_)
          have e_16 := i_addE h_y_24.symm (by omega) (by omega)
          refine wp_cu4 (ih _ _ _ _ _ _ _ _ h_0 h_1 q_13 q_14 h_4 q_15 (by omega) q_12 h_8 h_9 h_10 (by omega) (by omega) (by omega)) (fun z_wv_draftCount z_wv_place z_wv_fault z_wv_draft ⟨q_17, q_18, q_19, q_20, q_21⟩ => ?_)
          exact ⟨(by omega), (by omega), (by assumption), (by omega), (by omega)⟩
        ·
          have dc_5 := i_nle c_5
          refine wp_ck (i_inb (by omega) (by omega)) ?_
          refine wp_so1 ?_
          show wp _ _
          have n_23 : (1 : Int32).toInt = 1 := by decide
          refine wp_nm (fun y_15__22 h_y_15__22 => ?_)
          have e_24 := i_addE h_y_15__22.symm (by omega) (by omega)
          refine wp_bd4 (sf_X2_readProduct hN h_0 h_1 h_2 h_3 h_4 h_5 (by omega) (by omega) h_8 h_9 h_10 hgo) (fun w_16__25 w_17__26 w_18__27 w_19__28 ⟨q_29, q_30, q_31, q_32, q_33⟩ => ?_)
          refine wp_bd2 (sf_X2_note hN q_29 q_30 q_31) (fun w_21__34 w_22__35 ⟨q_36, q_37, q_38⟩ => ?_)
          refine wp_nm (fun y_24__39 h_y_24__39 => ?_)
          have e_40 := i_addE h_y_24__39.symm (by omega) (by omega)
          refine wp_cu4 (ih _ _ _ _ _ _ _ _ h_0 h_1 q_36 q_37 h_4 q_38 (by omega) q_33 h_8 h_9 h_10 (by omega) (by omega) (by omega)) (fun z_wv_draftCount__41 z_wv_place__42 z_wv_fault__43 z_wv_draft__44 ⟨q_45, q_46, q_47, q_48, q_49⟩ => ?_)
          exact ⟨(by omega), (by omega), (by assumption), (by omega), (by omega)⟩
      ·
        refine wp_ifp (by decide) ?_
        have n_50 : (45 : Int32).toInt = 45 := by decide
        refine wp_bd1 (sf_X2_meets hN h_0 h_1 h_4 h_6 (by omega)) (fun r_10 q_51 => ?_)
        rcases q_51 with ⟨rfl, q_51⟩ | ⟨rfl, q_51⟩
        ·
          refine wp_ifn (by decide) ?_
          refine wp_of (uf_X2_readSum_31 _ _ _ _ _ _ _ _ _ _ _) ?_
          refine wp_in1 ?_
          refine wp_of (uf_X2_next _ _ _ _) ?_
          refine wp_if (fun c_52 => ?_) (fun c_52 => ?_)
          ·
            have dc_52 := i_le c_52
            refine wp_so1 ?_
            show wp _ _
            have n_54 : (1 : Int32).toInt = 1 := by decide
            refine wp_nm (fun y_15__53 h_y_15__53 => ?_)
            have e_55 := i_addE h_y_15__53.symm (by omega) (by omega)
            refine wp_bd4 (sf_X2_readProduct hN h_0 h_1 h_2 h_3 h_4 h_5 (by omega) (by omega) h_8 h_9 h_10 hgo) (fun w_16__56 w_17__57 w_18__58 w_19__59 ⟨q_60, q_61, q_62, q_63, q_64⟩ => ?_)
            refine wp_bd2 (sf_X2_note hN q_60 q_61 q_62) (fun w_21__65 w_22__66 ⟨q_67, q_68, q_69⟩ => ?_)
            refine wp_nm (fun y_24__70 h_y_24__70 => ?_)
            have e_71 := i_addE h_y_24__70.symm (by omega) (by omega)
            refine wp_cu4 (ih _ _ _ _ _ _ _ _ h_0 h_1 q_67 q_68 h_4 q_69 (by omega) q_64 h_8 h_9 h_10 (by omega) (by omega) (by omega)) (fun z_wv_draftCount__72 z_wv_place__73 z_wv_fault__74 z_wv_draft__75 ⟨q_76, q_77, q_78, q_79, q_80⟩ => ?_)
            exact ⟨(by omega), (by omega), (by assumption), (by omega), (by omega)⟩
          ·
            have dc_52 := i_nle c_52
            refine wp_ck (i_inb (by omega) (by omega)) ?_
            refine wp_so1 ?_
            show wp _ _
            have n_82 : (1 : Int32).toInt = 1 := by decide
            refine wp_nm (fun y_15__81 h_y_15__81 => ?_)
            have e_83 := i_addE h_y_15__81.symm (by omega) (by omega)
            refine wp_bd4 (sf_X2_readProduct hN h_0 h_1 h_2 h_3 h_4 h_5 (by omega) (by omega) h_8 h_9 h_10 hgo) (fun w_16__84 w_17__85 w_18__86 w_19__87 ⟨q_88, q_89, q_90, q_91, q_92⟩ => ?_)
            refine wp_bd2 (sf_X2_note hN q_88 q_89 q_90) (fun w_21__93 w_22__94 ⟨q_95, q_96, q_97⟩ => ?_)
            refine wp_nm (fun y_24__98 h_y_24__98 => ?_)
            have e_99 := i_addE h_y_24__98.symm (by omega) (by omega)
            refine wp_cu4 (ih _ _ _ _ _ _ _ _ h_0 h_1 q_95 q_96 h_4 q_97 (by omega) q_92 h_8 h_9 h_10 (by omega) (by omega) (by omega)) (fun z_wv_draftCount__100 z_wv_place__101 z_wv_fault__102 z_wv_draft__103 ⟨q_104, q_105, q_106, q_107, q_108⟩ => ?_)
            exact ⟨(by omega), (by omega), (by assumption), (by omega), (by omega)⟩
        ·
          refine wp_ifp (by decide) ?_
          exact wp_so4 ⟨h_2, h_3, h_5, (by omega), h_7⟩

theorem uf_X2_readSum (N : Nat) (go : Int32 → Int32 → Int32 → Int32 → Int32 → List Int32 → List Int32 → Option (Int32 × Int32 × Int32 × List Int32)) (x1 : Int32) (v_size : Int32) (v_draftCount : Int32) (v_place : Int32) (v_fault : Int32) (v_tape : List Int32) (v_draft : List Int32) : fX2_readSum N go x1 v_size v_draftCount v_place v_fault v_tape v_draft = mm_bd4 (fX2_readProduct N go x1 v_size v_draftCount v_place v_fault v_tape v_draft) (fun (w_1 : Int32) (w_2 : Int32) (w_3 : Int32) (w_4 : List Int32) =>
    fX2_readSum_7 N go N x1 (0 : Int32) v_size w_1 w_2 w_3 v_tape w_4) := rfl

set_option maxHeartbeats 4000000 in
set_option maxRecDepth 20000 in
theorem sf_X2_readSum {N : Nat} (hN : 700 ≤ N) {K : Int} {go : Int32 → Int32 → Int32 → Int32 → Int32 → List Int32 → List Int32 → Option (Int32 × Int32 × Int32 × List Int32)} {x1 : Int32} {v_size : Int32} {v_draftCount : Int32} {v_place : Int32} {v_fault : Int32} {v_tape : List Int32} {v_draft : List Int32} (h_0 : 0 ≤ v_size.toInt) (h_1 : v_size.toInt ≤ 120) (h_2 : 0 ≤ v_draftCount.toInt) (h_3 : v_draftCount.toInt ≤ 121) (h_4 : v_tape.length = 120) (h_5 : v_draft.length = 121) (h_6 : 0 ≤ v_place.toInt) (h_7 : v_place.toInt ≤ v_size.toInt) (h_8 : 0 ≤ x1.toInt) (h_9 : x1.toInt ≤ 6) (h_10 : K ≤ x1.toInt) (hgo : ∀ (x1 : Int32) (v_size : Int32) (v_draftCount : Int32) (v_place : Int32) (v_fault : Int32) (v_tape : List Int32) (v_draft : List Int32), 0 ≤ v_size.toInt → v_size.toInt ≤ 120 → 0 ≤ v_draftCount.toInt → v_draftCount.toInt ≤ 121 → v_tape.length = 120 → v_draft.length = 121 → 0 ≤ v_place.toInt → v_place.toInt ≤ v_size.toInt → 0 ≤ x1.toInt → x1.toInt ≤ 6 → K ≤ x1.toInt → wp (go x1 v_size v_draftCount v_place v_fault v_tape v_draft) (cu4 (fun (wv_draftCount : Int32) (wv_place : Int32) (wv_fault : Int32) (wv_draft : List Int32) => 0 ≤ wv_draftCount.toInt ∧ wv_draftCount.toInt ≤ 121 ∧ wv_draft.length = 121 ∧ v_place.toInt ≤ wv_place.toInt ∧ wv_place.toInt ≤ v_size.toInt))) : wp (fX2_readSum N go x1 v_size v_draftCount v_place v_fault v_tape v_draft) (cu4 (fun (wv_draftCount : Int32) (wv_place : Int32) (wv_fault : Int32) (wv_draft : List Int32) => 0 ≤ wv_draftCount.toInt ∧ wv_draftCount.toInt ≤ 121 ∧ wv_draft.length = 121 ∧ v_place.toInt ≤ wv_place.toInt ∧ wv_place.toInt ≤ v_size.toInt)) := by
  refine wp_of (uf_X2_readSum _ _ _ _ _ _ _ _ _) ?_
  refine wp_bd4 (sf_X2_readProduct hN h_0 h_1 h_2 h_3 h_4 h_5 h_6 h_7 h_8 h_9 h_10 hgo) (fun w_1 w_2 w_3 w_4 ⟨q_1, q_2, q_3, q_4, q_5⟩ => ?_)
  have n_6 : (0 : Int32).toInt = 0 := by decide
  refine wp_cu4 (sf_X2_readSum_7 hN hgo _ _ _ _ _ _ _ _ _ h_0 h_1 q_1 q_2 h_4 q_3 (by omega) q_5 h_8 h_9 h_10 (by omega) (by omega) (by omega)) (fun z_wv_draftCount z_wv_place z_wv_fault z_wv_draft ⟨q_7, q_8, q_9, q_10, q_11⟩ => ?_)
  exact ⟨(by omega), (by omega), (by assumption), (by omega), (by omega)⟩

theorem uf_X2_readCompared (N : Nat) (go : Int32 → Int32 → Int32 → Int32 → Int32 → List Int32 → List Int32 → Option (Int32 × Int32 × Int32 × List Int32)) (x1 : Int32) (v_size : Int32) (v_draftCount : Int32) (v_place : Int32) (v_fault : Int32) (v_tape : List Int32) (v_draft : List Int32) : fX2_readCompared N go x1 v_size v_draftCount v_place v_fault v_tape v_draft = mm_bd4 (fX2_readSum N go x1 v_size v_draftCount v_place v_fault v_tape v_draft) (fun (w_1 : Int32) (w_2 : Int32) (w_3 : Int32) (w_4 : List Int32) =>
    mm_bd1 (fX2_meets N (60 : Int32) v_size w_2 w_3 v_tape) (fun (r_6 : Bool) =>
    if r_6 = false then
    (mm_bd1 (fX2_meets N (61 : Int32) v_size w_2 w_3 v_tape) (fun (r_9 : Bool) =>
    if r_9 = false then
    (mm_bd1 (fX2_meets N (62 : Int32) v_size w_2 w_3 v_tape) (fun (r_12 : Bool) =>
    if r_12 = false then
    (some (w_1, w_2, w_3, w_4))
    else (fX2_readCompared_32 N go x1 v_size w_1 w_2 w_3 v_tape w_4)))
    else (fX2_readCompared_32 N go x1 v_size w_1 w_2 w_3 v_tape w_4)))
    else (fX2_readCompared_32 N go x1 v_size w_1 w_2 w_3 v_tape w_4))) := rfl

theorem uf_X2_readCompared_32 (N : Nat) (go : Int32 → Int32 → Int32 → Int32 → Int32 → List Int32 → List Int32 → Option (Int32 × Int32 × Int32 × List Int32)) (x1 : Int32) (v_size : Int32) (v_draftCount : Int32) (v_place : Int32) (v_fault : Int32) (v_tape : List Int32) (v_draft : List Int32) : fX2_readCompared_32 N go x1 v_size v_draftCount v_place v_fault v_tape v_draft = mm_bd1 (fX2_next N v_size v_place v_tape) (fun (r_15 : Int32) =>
    mm_nm ((v_place + (1 : Int32))) (fun (y_17 : Int32) =>
    mm_bd4 (fX2_readSum N go x1 v_size v_draftCount y_17 v_fault v_tape v_draft) (fun (w_18 : Int32) (w_19 : Int32) (w_20 : Int32) (w_21 : List Int32) =>
    mm_bd2 (fX2_note N r_15 w_18 w_21) (fun (w_23 : Int32) (w_24 : List Int32) =>
    some (w_23, w_19, w_20, w_24))))) := rfl

set_option maxHeartbeats 4000000 in
set_option maxRecDepth 20000 in
theorem sf_X2_readCompared {N : Nat} (hN : 700 ≤ N) {K : Int} {go : Int32 → Int32 → Int32 → Int32 → Int32 → List Int32 → List Int32 → Option (Int32 × Int32 × Int32 × List Int32)} {x1 : Int32} {v_size : Int32} {v_draftCount : Int32} {v_place : Int32} {v_fault : Int32} {v_tape : List Int32} {v_draft : List Int32} (h_0 : 0 ≤ v_size.toInt) (h_1 : v_size.toInt ≤ 120) (h_2 : 0 ≤ v_draftCount.toInt) (h_3 : v_draftCount.toInt ≤ 121) (h_4 : v_tape.length = 120) (h_5 : v_draft.length = 121) (h_6 : 0 ≤ v_place.toInt) (h_7 : v_place.toInt ≤ v_size.toInt) (h_8 : 0 ≤ x1.toInt) (h_9 : x1.toInt ≤ 6) (h_10 : K ≤ x1.toInt) (hgo : ∀ (x1 : Int32) (v_size : Int32) (v_draftCount : Int32) (v_place : Int32) (v_fault : Int32) (v_tape : List Int32) (v_draft : List Int32), 0 ≤ v_size.toInt → v_size.toInt ≤ 120 → 0 ≤ v_draftCount.toInt → v_draftCount.toInt ≤ 121 → v_tape.length = 120 → v_draft.length = 121 → 0 ≤ v_place.toInt → v_place.toInt ≤ v_size.toInt → 0 ≤ x1.toInt → x1.toInt ≤ 6 → K ≤ x1.toInt → wp (go x1 v_size v_draftCount v_place v_fault v_tape v_draft) (cu4 (fun (wv_draftCount : Int32) (wv_place : Int32) (wv_fault : Int32) (wv_draft : List Int32) => 0 ≤ wv_draftCount.toInt ∧ wv_draftCount.toInt ≤ 121 ∧ wv_draft.length = 121 ∧ v_place.toInt ≤ wv_place.toInt ∧ wv_place.toInt ≤ v_size.toInt))) : wp (fX2_readCompared N go x1 v_size v_draftCount v_place v_fault v_tape v_draft) (cu4 (fun (wv_draftCount : Int32) (wv_place : Int32) (wv_fault : Int32) (wv_draft : List Int32) => 0 ≤ wv_draftCount.toInt ∧ wv_draftCount.toInt ≤ 121 ∧ wv_draft.length = 121 ∧ v_place.toInt ≤ wv_place.toInt ∧ wv_place.toInt ≤ v_size.toInt)) := by
  refine wp_of (uf_X2_readCompared _ _ _ _ _ _ _ _ _) ?_
  refine wp_bd4 (sf_X2_readSum hN h_0 h_1 h_2 h_3 h_4 h_5 h_6 h_7 h_8 h_9 h_10 hgo) (fun w_1 w_2 w_3 w_4 ⟨q_1, q_2, q_3, q_4, q_5⟩ => ?_)
  have n_6 : (60 : Int32).toInt = 60 := by decide
  refine wp_bd1 (sf_X2_meets hN h_0 h_1 h_4 (by omega) (by omega)) (fun r_6 q_7 => ?_)
  rcases q_7 with ⟨rfl, q_7⟩ | ⟨rfl, q_7⟩
  ·
    refine wp_ifn (by decide) ?_
    refine wp_of (uf_X2_readCompared_32 _ _ _ _ _ _ _ _ _) ?_
    refine wp_in1 ?_
    refine wp_of (uf_X2_next _ _ _ _) ?_
    refine wp_if (fun c_8 => ?_) (fun c_8 => ?_)
    ·
      have dc_8 := i_le c_8
      refine wp_so1 ?_
      show wp _ _
      have n_9 : (1 : Int32).toInt = 1 := by decide
      refine wp_nm (fun y_17 h_y_17 => ?_)
      have e_10 := i_addE h_y_17.symm (by omega) (by omega)
      refine wp_bd4 (sf_X2_readSum hN h_0 h_1 q_1 q_2 h_4 q_3 (by omega) (by omega) h_8 h_9 h_10 hgo) (fun w_18 w_19 w_20 w_21 ⟨q_11, q_12, q_13, q_14, q_15⟩ => ?_)
      refine wp_bd2 (sf_X2_note hN q_11 q_12 q_13) (fun w_23 w_24 ⟨q_16, q_17, q_18⟩ => ?_)
      exact wp_so4 ⟨q_16, q_17, q_18, (by omega), q_15⟩
    ·
      have dc_8 := i_nle c_8
      refine wp_ck (i_inb (by omega) (by omega)) ?_
      refine wp_so1 ?_
      show wp _ _
      have n_20 : (1 : Int32).toInt = 1 := by decide
      refine wp_nm (fun y_17__19 h_y_17__19 => ?_)
      have e_21 := i_addE h_y_17__19.symm (by omega) (by omega)
      refine wp_bd4 (sf_X2_readSum hN h_0 h_1 q_1 q_2 h_4 q_3 (by omega) (by omega) h_8 h_9 h_10 hgo) (fun w_18__22 w_19__23 w_20__24 w_21__25 ⟨q_26, q_27, q_28, q_29, q_30⟩ => ?_)
      refine wp_bd2 (sf_X2_note hN q_26 q_27 q_28) (fun w_23__31 w_24__32 ⟨q_33, q_34, q_35⟩ => ?_)
      exact wp_so4 ⟨q_33, q_34, q_35, (by omega), q_30⟩
  ·
    refine wp_ifp (by decide) ?_
    have n_36 : (61 : Int32).toInt = 61 := by decide
    refine wp_bd1 (sf_X2_meets hN h_0 h_1 h_4 (by omega) (by omega)) (fun r_9 q_37 => ?_)
    rcases q_37 with ⟨rfl, q_37⟩ | ⟨rfl, q_37⟩
    ·
      refine wp_ifn (by decide) ?_
      refine wp_of (uf_X2_readCompared_32 _ _ _ _ _ _ _ _ _) ?_
      refine wp_in1 ?_
      refine wp_of (uf_X2_next _ _ _ _) ?_
      refine wp_if (fun c_38 => ?_) (fun c_38 => ?_)
      ·
        have dc_38 := i_le c_38
        refine wp_so1 ?_
        show wp _ _
        have n_40 : (1 : Int32).toInt = 1 := by decide
        refine wp_nm (fun y_17__39 h_y_17__39 => ?_)
        have e_41 := i_addE h_y_17__39.symm (by omega) (by omega)
        refine wp_bd4 (sf_X2_readSum hN h_0 h_1 q_1 q_2 h_4 q_3 (by omega) (by omega) h_8 h_9 h_10 hgo) (fun w_18__42 w_19__43 w_20__44 w_21__45 ⟨q_46, q_47, q_48, q_49, q_50⟩ => ?_)
        refine wp_bd2 (sf_X2_note hN q_46 q_47 q_48) (fun w_23__51 w_24__52 ⟨q_53, q_54, q_55⟩ => ?_)
        exact wp_so4 ⟨q_53, q_54, q_55, (by omega), q_50⟩
      ·
        have dc_38 := i_nle c_38
        refine wp_ck (i_inb (by omega) (by omega)) ?_
        refine wp_so1 ?_
        show wp _ _
        have n_57 : (1 : Int32).toInt = 1 := by decide
        refine wp_nm (fun y_17__56 h_y_17__56 => ?_)
        have e_58 := i_addE h_y_17__56.symm (by omega) (by omega)
        refine wp_bd4 (sf_X2_readSum hN h_0 h_1 q_1 q_2 h_4 q_3 (by omega) (by omega) h_8 h_9 h_10 hgo) (fun w_18__59 w_19__60 w_20__61 w_21__62 ⟨q_63, q_64, q_65, q_66, q_67⟩ => ?_)
        refine wp_bd2 (sf_X2_note hN q_63 q_64 q_65) (fun w_23__68 w_24__69 ⟨q_70, q_71, q_72⟩ => ?_)
        exact wp_so4 ⟨q_70, q_71, q_72, (by omega), q_67⟩
    ·
      refine wp_ifp (by decide) ?_
      have n_73 : (62 : Int32).toInt = 62 := by decide
      refine wp_bd1 (sf_X2_meets hN h_0 h_1 h_4 (by omega) (by omega)) (fun r_12 q_74 => ?_)
      rcases q_74 with ⟨rfl, q_74⟩ | ⟨rfl, q_74⟩
      ·
        refine wp_ifn (by decide) ?_
        refine wp_of (uf_X2_readCompared_32 _ _ _ _ _ _ _ _ _) ?_
        refine wp_in1 ?_
        refine wp_of (uf_X2_next _ _ _ _) ?_
        refine wp_if (fun c_75 => ?_) (fun c_75 => ?_)
        ·
          have dc_75 := i_le c_75
          refine wp_so1 ?_
          show wp _ _
          have n_77 : (1 : Int32).toInt = 1 := by decide
          refine wp_nm (fun y_17__76 h_y_17__76 => ?_)
          have e_78 := i_addE h_y_17__76.symm (by omega) (by omega)
          refine wp_bd4 (sf_X2_readSum hN h_0 h_1 q_1 q_2 h_4 q_3 (by omega) (by omega) h_8 h_9 h_10 hgo) (fun w_18__79 w_19__80 w_20__81 w_21__82 ⟨q_83, q_84, q_85, q_86, q_87⟩ => ?_)
          refine wp_bd2 (sf_X2_note hN q_83 q_84 q_85) (fun w_23__88 w_24__89 ⟨q_90, q_91, q_92⟩ => ?_)
          exact wp_so4 ⟨q_90, q_91, q_92, (by omega), q_87⟩
        ·
          have dc_75 := i_nle c_75
          refine wp_ck (i_inb (by omega) (by omega)) ?_
          refine wp_so1 ?_
          show wp _ _
          have n_94 : (1 : Int32).toInt = 1 := by decide
          refine wp_nm (fun y_17__93 h_y_17__93 => ?_)
          have e_95 := i_addE h_y_17__93.symm (by omega) (by omega)
          refine wp_bd4 (sf_X2_readSum hN h_0 h_1 q_1 q_2 h_4 q_3 (by omega) (by omega) h_8 h_9 h_10 hgo) (fun w_18__96 w_19__97 w_20__98 w_21__99 ⟨q_100, q_101, q_102, q_103, q_104⟩ => ?_)
          refine wp_bd2 (sf_X2_note hN q_100 q_101 q_102) (fun w_23__105 w_24__106 ⟨q_107, q_108, q_109⟩ => ?_)
          exact wp_so4 ⟨q_107, q_108, q_109, (by omega), q_104⟩
      ·
        refine wp_ifp (by decide) ?_
        exact wp_so4 ⟨q_1, q_2, q_3, q_4, q_5⟩

theorem uf_X2_readBoth_7 (N : Nat) (go : Int32 → Int32 → Int32 → Int32 → Int32 → List Int32 → List Int32 → Option (Int32 × Int32 × Int32 × List Int32)) (n : Nat) (x1 : Int32) (x2 : Int32) (v_size : Int32) (v_draftCount : Int32) (v_place : Int32) (v_fault : Int32) (v_tape : List Int32) (v_draft : List Int32) : fX2_readBoth_7 N go (n + 1) x1 x2 v_size v_draftCount v_place v_fault v_tape v_draft = 
    if (120 : Int32) ≤ x2 then
    (some (v_draftCount, v_place, v_fault, v_draft))
    else (mm_bd1 (fX2_meets N (38 : Int32) v_size v_place v_fault v_tape) (fun (r_7 : Bool) =>
    if r_7 = false then
    (some (v_draftCount, v_place, v_fault, v_draft))
    else (mm_nm ((v_place + (1 : Int32))) (fun (y_10 : Int32) =>
    mm_bd4 (fX2_readCompared N go x1 v_size v_draftCount y_10 v_fault v_tape v_draft) (fun (w_11 : Int32) (w_12 : Int32) (w_13 : Int32) (w_14 : List Int32) =>
    mm_bd2 (fX2_note N (38 : Int32) w_11 w_14) (fun (w_16 : Int32) (w_17 : List Int32) =>
    mm_nm (x2 + (1 : Int32)) (fun (y_19 : Int32) =>
    fX2_readBoth_7 N go n x1 y_19 v_size w_16 w_12 w_13 v_tape w_17))))))) := rfl

set_option maxHeartbeats 4000000 in
set_option maxRecDepth 20000 in
theorem sf_X2_readBoth_7 {N : Nat} (hN : 700 ≤ N) {K : Int} {go : Int32 → Int32 → Int32 → Int32 → Int32 → List Int32 → List Int32 → Option (Int32 × Int32 × Int32 × List Int32)} (hgo : ∀ (x1 : Int32) (v_size : Int32) (v_draftCount : Int32) (v_place : Int32) (v_fault : Int32) (v_tape : List Int32) (v_draft : List Int32), 0 ≤ v_size.toInt → v_size.toInt ≤ 120 → 0 ≤ v_draftCount.toInt → v_draftCount.toInt ≤ 121 → v_tape.length = 120 → v_draft.length = 121 → 0 ≤ v_place.toInt → v_place.toInt ≤ v_size.toInt → 0 ≤ x1.toInt → x1.toInt ≤ 6 → K ≤ x1.toInt → wp (go x1 v_size v_draftCount v_place v_fault v_tape v_draft) (cu4 (fun (wv_draftCount : Int32) (wv_place : Int32) (wv_fault : Int32) (wv_draft : List Int32) => 0 ≤ wv_draftCount.toInt ∧ wv_draftCount.toInt ≤ 121 ∧ wv_draft.length = 121 ∧ v_place.toInt ≤ wv_place.toInt ∧ wv_place.toInt ≤ v_size.toInt))) : ∀ (n : Nat) (x1 : Int32) (x2 : Int32) (v_size : Int32) (v_draftCount : Int32) (v_place : Int32) (v_fault : Int32) (v_tape : List Int32) (v_draft : List Int32), 0 ≤ v_size.toInt → v_size.toInt ≤ 120 → 0 ≤ v_draftCount.toInt → v_draftCount.toInt ≤ 121 → v_tape.length = 120 → v_draft.length = 121 → 0 ≤ v_place.toInt → v_place.toInt ≤ v_size.toInt → 0 ≤ x1.toInt → x1.toInt ≤ 6 → K ≤ x1.toInt → 0 ≤ x2.toInt → x2.toInt ≤ 120 → (120 - x2.toInt).toNat < n → wp (fX2_readBoth_7 N go n x1 x2 v_size v_draftCount v_place v_fault v_tape v_draft) (cu4 (fun (wv_draftCount : Int32) (wv_place : Int32) (wv_fault : Int32) (wv_draft : List Int32) => 0 ≤ wv_draftCount.toInt ∧ wv_draftCount.toInt ≤ 121 ∧ wv_draft.length = 121 ∧ v_place.toInt ≤ wv_place.toInt ∧ wv_place.toInt ≤ v_size.toInt)) := by
  intro n
  induction n with
  | zero =>
    intro x1 x2 v_size v_draftCount v_place v_fault v_tape v_draft h_0 h_1 h_2 h_3 h_4 h_5 h_6 h_7 h_8 h_9 h_10 h_11 h_12 hm
    exact absurd hm (by omega)
  | succ n ih =>
    intro x1 x2 v_size v_draftCount v_place v_fault v_tape v_draft h_0 h_1 h_2 h_3 h_4 h_5 h_6 h_7 h_8 h_9 h_10 h_11 h_12 hm
    refine wp_of (uf_X2_readBoth_7 _ _ _ _ _ _ _ _ _ _ _) ?_
    have n_2 : (120 : Int32).toInt = 120 := by decide
    refine wp_if (fun c_1 => ?_) (fun c_1 => ?_)
    ·
      have dc_1 := i_le c_1
      exact wp_so4 ⟨h_2, h_3, h_5, (by omega), h_7⟩
    ·
      have dc_1 := i_nle c_1
      have n_3 : (38 : Int32).toInt = 38 := by decide
      refine wp_bd1 (sf_X2_meets hN h_0 h_1 h_4 h_6 (by omega)) (fun r_7 q_4 => ?_)
      rcases q_4 with ⟨rfl, q_4⟩ | ⟨rfl, q_4⟩
      ·
        refine wp_ifn (by decide) ?_
        have n_5 : (1 : Int32).toInt = 1 := by decide
        refine wp_nm (fun y_10 h_y_10 => ?_)
        have e_6 := i_addE h_y_10.symm (by omega) (by omega)
        refine wp_bd4 (sf_X2_readCompared hN h_0 h_1 h_2 h_3 h_4 h_5 (by omega) (by omega) h_8 h_9 h_10 hgo) (fun w_11 w_12 w_13 w_14 ⟨q_7, q_8, q_9, q_10, q_11⟩ => ?_)
        refine wp_bd2 (sf_X2_note hN q_7 q_8 q_9) (fun w_16 w_17 ⟨q_12, q_13, q_14⟩ => ?_)
        refine wp_nm (fun y_19 h_y_19 => ?_)
        have e_15 := i_addE h_y_19.symm (by omega) (by omega)
        refine wp_cu4 (ih _ _ _ _ _ _ _ _ h_0 h_1 q_12 q_13 h_4 q_14 (by omega) q_11 h_8 h_9 h_10 (by omega) (by omega) (by omega)) (fun z_wv_draftCount z_wv_place z_wv_fault z_wv_draft ⟨q_16, q_17, q_18, q_19, q_20⟩ => ?_)
        exact ⟨(by omega), (by omega), (by assumption), (by omega), (by omega)⟩
      ·
        refine wp_ifp (by decide) ?_
        exact wp_so4 ⟨h_2, h_3, h_5, (by omega), h_7⟩

theorem uf_X2_readBoth (N : Nat) (go : Int32 → Int32 → Int32 → Int32 → Int32 → List Int32 → List Int32 → Option (Int32 × Int32 × Int32 × List Int32)) (x1 : Int32) (v_size : Int32) (v_draftCount : Int32) (v_place : Int32) (v_fault : Int32) (v_tape : List Int32) (v_draft : List Int32) : fX2_readBoth N go x1 v_size v_draftCount v_place v_fault v_tape v_draft = mm_bd4 (fX2_readCompared N go x1 v_size v_draftCount v_place v_fault v_tape v_draft) (fun (w_1 : Int32) (w_2 : Int32) (w_3 : Int32) (w_4 : List Int32) =>
    fX2_readBoth_7 N go N x1 (0 : Int32) v_size w_1 w_2 w_3 v_tape w_4) := rfl

set_option maxHeartbeats 4000000 in
set_option maxRecDepth 20000 in
theorem sf_X2_readBoth {N : Nat} (hN : 700 ≤ N) {K : Int} {go : Int32 → Int32 → Int32 → Int32 → Int32 → List Int32 → List Int32 → Option (Int32 × Int32 × Int32 × List Int32)} {x1 : Int32} {v_size : Int32} {v_draftCount : Int32} {v_place : Int32} {v_fault : Int32} {v_tape : List Int32} {v_draft : List Int32} (h_0 : 0 ≤ v_size.toInt) (h_1 : v_size.toInt ≤ 120) (h_2 : 0 ≤ v_draftCount.toInt) (h_3 : v_draftCount.toInt ≤ 121) (h_4 : v_tape.length = 120) (h_5 : v_draft.length = 121) (h_6 : 0 ≤ v_place.toInt) (h_7 : v_place.toInt ≤ v_size.toInt) (h_8 : 0 ≤ x1.toInt) (h_9 : x1.toInt ≤ 6) (h_10 : K ≤ x1.toInt) (hgo : ∀ (x1 : Int32) (v_size : Int32) (v_draftCount : Int32) (v_place : Int32) (v_fault : Int32) (v_tape : List Int32) (v_draft : List Int32), 0 ≤ v_size.toInt → v_size.toInt ≤ 120 → 0 ≤ v_draftCount.toInt → v_draftCount.toInt ≤ 121 → v_tape.length = 120 → v_draft.length = 121 → 0 ≤ v_place.toInt → v_place.toInt ≤ v_size.toInt → 0 ≤ x1.toInt → x1.toInt ≤ 6 → K ≤ x1.toInt → wp (go x1 v_size v_draftCount v_place v_fault v_tape v_draft) (cu4 (fun (wv_draftCount : Int32) (wv_place : Int32) (wv_fault : Int32) (wv_draft : List Int32) => 0 ≤ wv_draftCount.toInt ∧ wv_draftCount.toInt ≤ 121 ∧ wv_draft.length = 121 ∧ v_place.toInt ≤ wv_place.toInt ∧ wv_place.toInt ≤ v_size.toInt))) : wp (fX2_readBoth N go x1 v_size v_draftCount v_place v_fault v_tape v_draft) (cu4 (fun (wv_draftCount : Int32) (wv_place : Int32) (wv_fault : Int32) (wv_draft : List Int32) => 0 ≤ wv_draftCount.toInt ∧ wv_draftCount.toInt ≤ 121 ∧ wv_draft.length = 121 ∧ v_place.toInt ≤ wv_place.toInt ∧ wv_place.toInt ≤ v_size.toInt)) := by
  refine wp_of (uf_X2_readBoth _ _ _ _ _ _ _ _ _) ?_
  refine wp_bd4 (sf_X2_readCompared hN h_0 h_1 h_2 h_3 h_4 h_5 h_6 h_7 h_8 h_9 h_10 hgo) (fun w_1 w_2 w_3 w_4 ⟨q_1, q_2, q_3, q_4, q_5⟩ => ?_)
  have n_6 : (0 : Int32).toInt = 0 := by decide
  refine wp_cu4 (sf_X2_readBoth_7 hN hgo _ _ _ _ _ _ _ _ _ h_0 h_1 q_1 q_2 h_4 q_3 (by omega) q_5 h_8 h_9 h_10 (by omega) (by omega) (by omega)) (fun z_wv_draftCount z_wv_place z_wv_fault z_wv_draft ⟨q_7, q_8, q_9, q_10, q_11⟩ => ?_)
  exact ⟨(by omega), (by omega), (by assumption), (by omega), (by omega)⟩

theorem uf_X2_readEither_7 (N : Nat) (go : Int32 → Int32 → Int32 → Int32 → Int32 → List Int32 → List Int32 → Option (Int32 × Int32 × Int32 × List Int32)) (n : Nat) (x1 : Int32) (x2 : Int32) (v_size : Int32) (v_draftCount : Int32) (v_place : Int32) (v_fault : Int32) (v_tape : List Int32) (v_draft : List Int32) : fX2_readEither_7 N go (n + 1) x1 x2 v_size v_draftCount v_place v_fault v_tape v_draft = 
    if (120 : Int32) ≤ x2 then
    (some (v_draftCount, v_place, v_fault, v_draft))
    else (mm_bd1 (fX2_meets N (124 : Int32) v_size v_place v_fault v_tape) (fun (r_7 : Bool) =>
    if r_7 = false then
    (some (v_draftCount, v_place, v_fault, v_draft))
    else (mm_nm ((v_place + (1 : Int32))) (fun (y_10 : Int32) =>
    mm_bd4 (fX2_readBoth N go x1 v_size v_draftCount y_10 v_fault v_tape v_draft) (fun (w_11 : Int32) (w_12 : Int32) (w_13 : Int32) (w_14 : List Int32) =>
    mm_bd2 (fX2_note N (124 : Int32) w_11 w_14) (fun (w_16 : Int32) (w_17 : List Int32) =>
    mm_nm (x2 + (1 : Int32)) (fun (y_19 : Int32) =>
    fX2_readEither_7 N go n x1 y_19 v_size w_16 w_12 w_13 v_tape w_17))))))) := rfl

set_option maxHeartbeats 4000000 in
set_option maxRecDepth 20000 in
theorem sf_X2_readEither_7 {N : Nat} (hN : 700 ≤ N) {K : Int} {go : Int32 → Int32 → Int32 → Int32 → Int32 → List Int32 → List Int32 → Option (Int32 × Int32 × Int32 × List Int32)} (hgo : ∀ (x1 : Int32) (v_size : Int32) (v_draftCount : Int32) (v_place : Int32) (v_fault : Int32) (v_tape : List Int32) (v_draft : List Int32), 0 ≤ v_size.toInt → v_size.toInt ≤ 120 → 0 ≤ v_draftCount.toInt → v_draftCount.toInt ≤ 121 → v_tape.length = 120 → v_draft.length = 121 → 0 ≤ v_place.toInt → v_place.toInt ≤ v_size.toInt → 0 ≤ x1.toInt → x1.toInt ≤ 6 → K ≤ x1.toInt → wp (go x1 v_size v_draftCount v_place v_fault v_tape v_draft) (cu4 (fun (wv_draftCount : Int32) (wv_place : Int32) (wv_fault : Int32) (wv_draft : List Int32) => 0 ≤ wv_draftCount.toInt ∧ wv_draftCount.toInt ≤ 121 ∧ wv_draft.length = 121 ∧ v_place.toInt ≤ wv_place.toInt ∧ wv_place.toInt ≤ v_size.toInt))) : ∀ (n : Nat) (x1 : Int32) (x2 : Int32) (v_size : Int32) (v_draftCount : Int32) (v_place : Int32) (v_fault : Int32) (v_tape : List Int32) (v_draft : List Int32), 0 ≤ v_size.toInt → v_size.toInt ≤ 120 → 0 ≤ v_draftCount.toInt → v_draftCount.toInt ≤ 121 → v_tape.length = 120 → v_draft.length = 121 → 0 ≤ v_place.toInt → v_place.toInt ≤ v_size.toInt → 0 ≤ x1.toInt → x1.toInt ≤ 6 → K ≤ x1.toInt → 0 ≤ x2.toInt → x2.toInt ≤ 120 → (120 - x2.toInt).toNat < n → wp (fX2_readEither_7 N go n x1 x2 v_size v_draftCount v_place v_fault v_tape v_draft) (cu4 (fun (wv_draftCount : Int32) (wv_place : Int32) (wv_fault : Int32) (wv_draft : List Int32) => 0 ≤ wv_draftCount.toInt ∧ wv_draftCount.toInt ≤ 121 ∧ wv_draft.length = 121 ∧ v_place.toInt ≤ wv_place.toInt ∧ wv_place.toInt ≤ v_size.toInt)) := by
  intro n
  induction n with
  | zero =>
    intro x1 x2 v_size v_draftCount v_place v_fault v_tape v_draft h_0 h_1 h_2 h_3 h_4 h_5 h_6 h_7 h_8 h_9 h_10 h_11 h_12 hm
    exact absurd hm (by omega)
  | succ n ih =>
    intro x1 x2 v_size v_draftCount v_place v_fault v_tape v_draft h_0 h_1 h_2 h_3 h_4 h_5 h_6 h_7 h_8 h_9 h_10 h_11 h_12 hm
    refine wp_of (uf_X2_readEither_7 _ _ _ _ _ _ _ _ _ _ _) ?_
    have n_2 : (120 : Int32).toInt = 120 := by decide
    refine wp_if (fun c_1 => ?_) (fun c_1 => ?_)
    ·
      have dc_1 := i_le c_1
      exact wp_so4 ⟨h_2, h_3, h_5, (by omega), h_7⟩
    ·
      have dc_1 := i_nle c_1
      have n_3 : (124 : Int32).toInt = 124 := by decide
      refine wp_bd1 (sf_X2_meets hN h_0 h_1 h_4 h_6 (by omega)) (fun r_7 q_4 => ?_)
      rcases q_4 with ⟨rfl, q_4⟩ | ⟨rfl, q_4⟩
      ·
        refine wp_ifn (by decide) ?_
        have n_5 : (1 : Int32).toInt = 1 := by decide
        refine wp_nm (fun y_10 h_y_10 => ?_)
        have e_6 := i_addE h_y_10.symm (by omega) (by omega)
        refine wp_bd4 (sf_X2_readBoth hN h_0 h_1 h_2 h_3 h_4 h_5 (by omega) (by omega) h_8 h_9 h_10 hgo) (fun w_11 w_12 w_13 w_14 ⟨q_7, q_8, q_9, q_10, q_11⟩ => ?_)
        refine wp_bd2 (sf_X2_note hN q_7 q_8 q_9) (fun w_16 w_17 ⟨q_12, q_13, q_14⟩ => ?_)
        refine wp_nm (fun y_19 h_y_19 => ?_)
        have e_15 := i_addE h_y_19.symm (by omega) (by omega)
        refine wp_cu4 (ih _ _ _ _ _ _ _ _ h_0 h_1 q_12 q_13 h_4 q_14 (by omega) q_11 h_8 h_9 h_10 (by omega) (by omega) (by omega)) (fun z_wv_draftCount z_wv_place z_wv_fault z_wv_draft ⟨q_16, q_17, q_18, q_19, q_20⟩ => ?_)
        exact ⟨(by omega), (by omega), (by assumption), (by omega), (by omega)⟩
      ·
        refine wp_ifp (by decide) ?_
        exact wp_so4 ⟨h_2, h_3, h_5, (by omega), h_7⟩

theorem uf_X2_readEither (N : Nat) (go : Int32 → Int32 → Int32 → Int32 → Int32 → List Int32 → List Int32 → Option (Int32 × Int32 × Int32 × List Int32)) (x1 : Int32) (v_size : Int32) (v_draftCount : Int32) (v_place : Int32) (v_fault : Int32) (v_tape : List Int32) (v_draft : List Int32) : fX2_readEither N go x1 v_size v_draftCount v_place v_fault v_tape v_draft = mm_bd4 (fX2_readBoth N go x1 v_size v_draftCount v_place v_fault v_tape v_draft) (fun (w_1 : Int32) (w_2 : Int32) (w_3 : Int32) (w_4 : List Int32) =>
    fX2_readEither_7 N go N x1 (0 : Int32) v_size w_1 w_2 w_3 v_tape w_4) := rfl

set_option maxHeartbeats 4000000 in
set_option maxRecDepth 20000 in
theorem sf_X2_readEither {N : Nat} (hN : 700 ≤ N) {K : Int} {go : Int32 → Int32 → Int32 → Int32 → Int32 → List Int32 → List Int32 → Option (Int32 × Int32 × Int32 × List Int32)} {x1 : Int32} {v_size : Int32} {v_draftCount : Int32} {v_place : Int32} {v_fault : Int32} {v_tape : List Int32} {v_draft : List Int32} (h_0 : 0 ≤ v_size.toInt) (h_1 : v_size.toInt ≤ 120) (h_2 : 0 ≤ v_draftCount.toInt) (h_3 : v_draftCount.toInt ≤ 121) (h_4 : v_tape.length = 120) (h_5 : v_draft.length = 121) (h_6 : 0 ≤ v_place.toInt) (h_7 : v_place.toInt ≤ v_size.toInt) (h_8 : 0 ≤ x1.toInt) (h_9 : x1.toInt ≤ 6) (h_10 : K ≤ x1.toInt) (hgo : ∀ (x1 : Int32) (v_size : Int32) (v_draftCount : Int32) (v_place : Int32) (v_fault : Int32) (v_tape : List Int32) (v_draft : List Int32), 0 ≤ v_size.toInt → v_size.toInt ≤ 120 → 0 ≤ v_draftCount.toInt → v_draftCount.toInt ≤ 121 → v_tape.length = 120 → v_draft.length = 121 → 0 ≤ v_place.toInt → v_place.toInt ≤ v_size.toInt → 0 ≤ x1.toInt → x1.toInt ≤ 6 → K ≤ x1.toInt → wp (go x1 v_size v_draftCount v_place v_fault v_tape v_draft) (cu4 (fun (wv_draftCount : Int32) (wv_place : Int32) (wv_fault : Int32) (wv_draft : List Int32) => 0 ≤ wv_draftCount.toInt ∧ wv_draftCount.toInt ≤ 121 ∧ wv_draft.length = 121 ∧ v_place.toInt ≤ wv_place.toInt ∧ wv_place.toInt ≤ v_size.toInt))) : wp (fX2_readEither N go x1 v_size v_draftCount v_place v_fault v_tape v_draft) (cu4 (fun (wv_draftCount : Int32) (wv_place : Int32) (wv_fault : Int32) (wv_draft : List Int32) => 0 ≤ wv_draftCount.toInt ∧ wv_draftCount.toInt ≤ 121 ∧ wv_draft.length = 121 ∧ v_place.toInt ≤ wv_place.toInt ∧ wv_place.toInt ≤ v_size.toInt)) := by
  refine wp_of (uf_X2_readEither _ _ _ _ _ _ _ _ _) ?_
  refine wp_bd4 (sf_X2_readBoth hN h_0 h_1 h_2 h_3 h_4 h_5 h_6 h_7 h_8 h_9 h_10 hgo) (fun w_1 w_2 w_3 w_4 ⟨q_1, q_2, q_3, q_4, q_5⟩ => ?_)
  have n_6 : (0 : Int32).toInt = 0 := by decide
  refine wp_cu4 (sf_X2_readEither_7 hN hgo _ _ _ _ _ _ _ _ _ h_0 h_1 q_1 q_2 h_4 q_3 (by omega) q_5 h_8 h_9 h_10 (by omega) (by omega) (by omega)) (fun z_wv_draftCount z_wv_place z_wv_fault z_wv_draft ⟨q_7, q_8, q_9, q_10, q_11⟩ => ?_)
  exact ⟨(by omega), (by omega), (by assumption), (by omega), (by omega)⟩

theorem uf_X2_isName (N : Nat) (x0 : Int32) : fX2_isName N x0 = if x0 = (98 : Int32) then
    (some (true))
    else (if x0 = (102 : Int32) then
    (some (true))
    else (if x0 = (107 : Int32) then
    (some (true))
    else (if x0 = (110 : Int32) then
    (some (true))
    else (if x0 = (114 : Int32) then
    (some (true))
    else (if x0 = (119 : Int32) then
    (some (true))
    else (some (false))))))) := rfl

theorem uf_X2_readOne (N : Nat) (M : Nat) (z0 : Int32) (z1 : Int32) (z2 : Int32) (z3 : Int32) (z4 : Int32) (z5 : List Int32) (z6 : List Int32) : fX2_readOne N (M + 1) z0 z1 z2 z3 z4 z5 z6 = (fX2_readOneo N (fX2_readOne N M)) z0 z1 z2 z3 z4 z5 z6 := rfl

theorem uf_X2_readOne_157 (N : Nat) (go : Int32 → Int32 → Int32 → Int32 → Int32 → List Int32 → List Int32 → Option (Int32 × Int32 × Int32 × List Int32)) (v_size : Int32) (v_draftCount : Int32) (v_place : Int32) (v_fault : Int32) (v_tape : List Int32) (v_draft : List Int32) : fX2_readOne_157 N go v_size v_draftCount v_place v_fault v_tape v_draft = mm_bd1 (fX2_fail N v_place v_fault) (fun (w_44 : Int32) =>
    some (v_draftCount, v_place, w_44, v_draft)) := rfl

theorem uf_X2_readOne_62 (N : Nat) (go : Int32 → Int32 → Int32 → Int32 → Int32 → List Int32 → List Int32 → Option (Int32 × Int32 × Int32 × List Int32)) (x1 : Int32) (x2 : Int32) (v_size : Int32) (v_draftCount : Int32) (v_place : Int32) (v_fault : Int32) (v_tape : List Int32) (v_draft : List Int32) : fX2_readOne_62 N go x1 x2 v_size v_draftCount v_place v_fault v_tape v_draft = mm_nm ((v_place + (1 : Int32))) (fun (y_20 : Int32) =>
    mm_bd4 (go (x1 + (1 : Int32)) v_size v_draftCount y_20 v_fault v_tape v_draft) (fun (w_21 : Int32) (w_22 : Int32) (w_23 : Int32) (w_24 : List Int32) =>
    if x2 = (33 : Int32) then
    (fX2_readOne_93 N go (33 : Int32) v_size w_21 w_22 w_23 v_tape w_24)
    else (fX2_readOne_93 N go (126 : Int32) v_size w_21 w_22 w_23 v_tape w_24))) := rfl

theorem uf_X2_readOne_93 (N : Nat) (go : Int32 → Int32 → Int32 → Int32 → Int32 → List Int32 → List Int32 → Option (Int32 × Int32 × Int32 × List Int32)) (s0 : Int32) (v_size : Int32) (v_draftCount : Int32) (v_place : Int32) (v_fault : Int32) (v_tape : List Int32) (v_draft : List Int32) : fX2_readOne_93 N go s0 v_size v_draftCount v_place v_fault v_tape v_draft = mm_bd2 (fX2_note N s0 v_draftCount v_draft) (fun (w_27 : Int32) (w_28 : List Int32) =>
    some (w_27, v_place, v_fault, w_28)) := rfl

theorem uf_X2_readOne_99 (N : Nat) (go : Int32 → Int32 → Int32 → Int32 → Int32 → List Int32 → List Int32 → Option (Int32 × Int32 × Int32 × List Int32)) (x1 : Int32) (x2 : Int32) (v_size : Int32) (v_draftCount : Int32) (v_place : Int32) (v_fault : Int32) (v_tape : List Int32) (v_draft : List Int32) : fX2_readOne_99 N go x1 x2 v_size v_draftCount v_place v_fault v_tape v_draft = if (6 : Int32) ≤ x1 then
    (fX2_readOne_157 N go v_size v_draftCount v_place v_fault v_tape v_draft)
    else (if x2 = (40 : Int32) then
    (mm_nm ((v_place + (1 : Int32))) (fun (y_32 : Int32) =>
    mm_bd4 (fX2_readEither N go (x1 + (1 : Int32)) v_size v_draftCount y_32 v_fault v_tape v_draft) (fun (w_33 : Int32) (w_34 : Int32) (w_35 : Int32) (w_36 : List Int32) =>
    mm_bd1 (fX2_meets N (41 : Int32) v_size w_34 w_35 v_tape) (fun (r_38 : Bool) =>
    if r_38 = false then
    (mm_bd1 (fX2_fail N w_34 w_35) (fun (w_41 : Int32) =>
    some (w_33, w_34, w_41, w_36)))
    else (mm_nm ((w_34 + (1 : Int32))) (fun (y_43 : Int32) =>
    some (w_33, y_43, w_35, w_36)))))))
    else (fX2_readOne_157 N go v_size v_draftCount v_place v_fault v_tape v_draft)) := rfl

theorem uf_X2_readOneo (N : Nat) (go : Int32 → Int32 → Int32 → Int32 → Int32 → List Int32 → List Int32 → Option (Int32 × Int32 × Int32 × List Int32)) (x1 : Int32) (v_size : Int32) (v_draftCount : Int32) (v_place : Int32) (v_fault : Int32) (v_tape : List Int32) (v_draft : List Int32) : fX2_readOneo N go x1 v_size v_draftCount v_place v_fault v_tape v_draft = mm_bd1 (fX2_next N v_size v_place v_tape) (fun (r_1 : Int32) =>
    mm_bd1 (fX2_isDigit N r_1) (fun (r_3 : Bool) =>
    if r_3 = false then
    (mm_bd1 (fX2_isName N r_1) (fun (r_6 : Bool) =>
    if r_6 = false then
    (if (6 : Int32) ≤ x1 then
    (fX2_readOne_99 N go x1 r_1 v_size v_draftCount v_place v_fault v_tape v_draft)
    else (if r_1 = (33 : Int32) then
    (fX2_readOne_62 N go x1 r_1 v_size v_draftCount v_place v_fault v_tape v_draft)
    else (if r_1 = (45 : Int32) then
    (fX2_readOne_62 N go x1 r_1 v_size v_draftCount v_place v_fault v_tape v_draft)
    else (fX2_readOne_99 N go x1 r_1 v_size v_draftCount v_place v_fault v_tape v_draft))))
    else (mm_nm ((v_place + (1 : Int32))) (fun (y_12 : Int32) =>
    mm_bd2 (fX2_note N r_1 v_draftCount v_draft) (fun (w_13 : Int32) (w_14 : List Int32) =>
    some (w_13, y_12, v_fault, w_14))))))
    else (mm_bd3 (fX2_readNumber N v_size v_draftCount v_place v_tape v_draft) (fun (w_16 : Int32) (w_17 : Int32) (w_18 : List Int32) =>
    some (w_16, w_17, v_fault, w_18))))) := rfl

set_option maxHeartbeats 4000000 in
set_option maxRecDepth 20000 in
theorem sf_X2_readOneo {N : Nat} (hN : 700 ≤ N) {K : Int} {go : Int32 → Int32 → Int32 → Int32 → Int32 → List Int32 → List Int32 → Option (Int32 × Int32 × Int32 × List Int32)} {x1 : Int32} {v_size : Int32} {v_draftCount : Int32} {v_place : Int32} {v_fault : Int32} {v_tape : List Int32} {v_draft : List Int32} (h_0 : 0 ≤ v_size.toInt) (h_1 : v_size.toInt ≤ 120) (h_2 : 0 ≤ v_draftCount.toInt) (h_3 : v_draftCount.toInt ≤ 121) (h_4 : v_tape.length = 120) (h_5 : v_draft.length = 121) (h_6 : 0 ≤ v_place.toInt) (h_7 : v_place.toInt ≤ v_size.toInt) (h_8 : 0 ≤ x1.toInt) (h_9 : x1.toInt ≤ 6) (hK : K ≤ x1.toInt + 1) (hgo : ∀ (x1 : Int32) (v_size : Int32) (v_draftCount : Int32) (v_place : Int32) (v_fault : Int32) (v_tape : List Int32) (v_draft : List Int32), 0 ≤ v_size.toInt → v_size.toInt ≤ 120 → 0 ≤ v_draftCount.toInt → v_draftCount.toInt ≤ 121 → v_tape.length = 120 → v_draft.length = 121 → 0 ≤ v_place.toInt → v_place.toInt ≤ v_size.toInt → 0 ≤ x1.toInt → x1.toInt ≤ 6 → K ≤ x1.toInt → wp (go x1 v_size v_draftCount v_place v_fault v_tape v_draft) (cu4 (fun (wv_draftCount : Int32) (wv_place : Int32) (wv_fault : Int32) (wv_draft : List Int32) => 0 ≤ wv_draftCount.toInt ∧ wv_draftCount.toInt ≤ 121 ∧ wv_draft.length = 121 ∧ v_place.toInt ≤ wv_place.toInt ∧ wv_place.toInt ≤ v_size.toInt))) : wp (fX2_readOneo N go x1 v_size v_draftCount v_place v_fault v_tape v_draft) (cu4 (fun (wv_draftCount : Int32) (wv_place : Int32) (wv_fault : Int32) (wv_draft : List Int32) => 0 ≤ wv_draftCount.toInt ∧ wv_draftCount.toInt ≤ 121 ∧ wv_draft.length = 121 ∧ v_place.toInt ≤ wv_place.toInt ∧ wv_place.toInt ≤ v_size.toInt)) := by
  refine wp_of (uf_X2_readOneo _ _ _ _ _ _ _ _ _) ?_
  refine wp_in1 ?_
  refine wp_of (uf_X2_next _ _ _ _) ?_
  refine wp_if (fun c_1 => ?_) (fun c_1 => ?_)
  ·
    have dc_1 := i_le c_1
    refine wp_so1 ?_
    show wp _ _
    refine wp_in1 ?_
    refine wp_of (uf_X2_isDigit _ _) ?_
    refine wp_ifp (by decide) ?_
    refine wp_so1 ?_
    show wp _ _
    refine wp_ifp (by decide) ?_
    refine wp_in1 ?_
    refine wp_of (uf_X2_isName _ _) ?_
    refine wp_ifn (by decide) ?_
    refine wp_ifn (by decide) ?_
    refine wp_ifn (by decide) ?_
    refine wp_ifn (by decide) ?_
    refine wp_ifn (by decide) ?_
    refine wp_ifn (by decide) ?_
    refine wp_so1 ?_
    show wp _ _
    refine wp_ifp (by decide) ?_
    have n_3 : (6 : Int32).toInt = 6 := by decide
    refine wp_if (fun c_2 => ?_) (fun c_2 => ?_)
    ·
      have dc_2 := i_le c_2
      refine wp_of (uf_X2_readOne_99 _ _ _ _ _ _ _ _ _ _) ?_
      refine wp_ifp c_2 ?_
      refine wp_of (uf_X2_readOne_157 _ _ _ _ _ _ _ _) ?_
      refine wp_bd1 (sf_X2_fail hN ) (fun w_44 _ => ?_)
      exact wp_so4 ⟨h_2, h_3, h_5, (by omega), h_7⟩
    ·
      have dc_2 := i_nle c_2
      refine wp_ifn (by decide) ?_
      refine wp_ifn (by decide) ?_
      refine wp_of (uf_X2_readOne_99 _ _ _ _ _ _ _ _ _ _) ?_
      refine wp_ifn c_2 ?_
      refine wp_ifn (by decide) ?_
      refine wp_of (uf_X2_readOne_157 _ _ _ _ _ _ _ _) ?_
      refine wp_bd1 (sf_X2_fail hN ) (fun w_44__4 _ => ?_)
      exact wp_so4 ⟨h_2, h_3, h_5, (by omega), h_7⟩
  ·
    have dc_1 := i_nle c_1
    refine wp_ck (i_inb (by omega) (by omega)) ?_
    refine wp_so1 ?_
    show wp _ _
    refine wp_in1 ?_
    refine wp_of (uf_X2_isDigit _ _) ?_
    have n_6 : (48 : Int32).toInt = 48 := by decide
    refine wp_if (fun c_5 => ?_) (fun c_5 => ?_)
    ·
      have dc_5 := i_lt c_5
      refine wp_so1 ?_
      show wp _ _
      refine wp_ifp (by decide) ?_
      refine wp_in1 ?_
      refine wp_of (uf_X2_isName _ _) ?_
      have n_8 : (98 : Int32).toInt = 98 := by decide
      refine wp_if (fun c_7 => ?_) (fun c_7 => ?_)
      ·
        have dc_7 := i_eq c_7
        refine wp_so1 ?_
        show wp _ _
        refine wp_ifn (by decide) ?_
        have n_9 : (1 : Int32).toInt = 1 := by decide
        refine wp_nm (fun y_12 h_y_12 => ?_)
        have e_10 := i_addE h_y_12.symm (by omega) (by omega)
        refine wp_bd2 (sf_X2_note hN h_2 h_3 h_5) (fun w_13 w_14 ⟨q_11, q_12, q_13⟩ => ?_)
        exact wp_so4 ⟨q_11, q_12, q_13, (by omega), (by omega)⟩
      ·
        have dc_7 := i_ne c_7
        have n_15 : (102 : Int32).toInt = 102 := by decide
        refine wp_if (fun c_14 => ?_) (fun c_14 => ?_)
        ·
          have dc_14 := i_eq c_14
          refine wp_so1 ?_
          show wp _ _
          refine wp_ifn (by decide) ?_
          have n_17 : (1 : Int32).toInt = 1 := by decide
          refine wp_nm (fun y_12__16 h_y_12__16 => ?_)
          have e_18 := i_addE h_y_12__16.symm (by omega) (by omega)
          refine wp_bd2 (sf_X2_note hN h_2 h_3 h_5) (fun w_13__19 w_14__20 ⟨q_21, q_22, q_23⟩ => ?_)
          exact wp_so4 ⟨q_21, q_22, q_23, (by omega), (by omega)⟩
        ·
          have dc_14 := i_ne c_14
          have n_25 : (107 : Int32).toInt = 107 := by decide
          refine wp_if (fun c_24 => ?_) (fun c_24 => ?_)
          ·
            have dc_24 := i_eq c_24
            refine wp_so1 ?_
            show wp _ _
            refine wp_ifn (by decide) ?_
            have n_27 : (1 : Int32).toInt = 1 := by decide
            refine wp_nm (fun y_12__26 h_y_12__26 => ?_)
            have e_28 := i_addE h_y_12__26.symm (by omega) (by omega)
            refine wp_bd2 (sf_X2_note hN h_2 h_3 h_5) (fun w_13__29 w_14__30 ⟨q_31, q_32, q_33⟩ => ?_)
            exact wp_so4 ⟨q_31, q_32, q_33, (by omega), (by omega)⟩
          ·
            have dc_24 := i_ne c_24
            have n_35 : (110 : Int32).toInt = 110 := by decide
            refine wp_if (fun c_34 => ?_) (fun c_34 => ?_)
            ·
              have dc_34 := i_eq c_34
              refine wp_so1 ?_
              show wp _ _
              refine wp_ifn (by decide) ?_
              have n_37 : (1 : Int32).toInt = 1 := by decide
              refine wp_nm (fun y_12__36 h_y_12__36 => ?_)
              have e_38 := i_addE h_y_12__36.symm (by omega) (by omega)
              refine wp_bd2 (sf_X2_note hN h_2 h_3 h_5) (fun w_13__39 w_14__40 ⟨q_41, q_42, q_43⟩ => ?_)
              exact wp_so4 ⟨q_41, q_42, q_43, (by omega), (by omega)⟩
            ·
              have dc_34 := i_ne c_34
              have n_45 : (114 : Int32).toInt = 114 := by decide
              refine wp_if (fun c_44 => ?_) (fun c_44 => ?_)
              ·
                have dc_44 := i_eq c_44
                refine wp_so1 ?_
                show wp _ _
                refine wp_ifn (by decide) ?_
                have n_47 : (1 : Int32).toInt = 1 := by decide
                refine wp_nm (fun y_12__46 h_y_12__46 => ?_)
                have e_48 := i_addE h_y_12__46.symm (by omega) (by omega)
                refine wp_bd2 (sf_X2_note hN h_2 h_3 h_5) (fun w_13__49 w_14__50 ⟨q_51, q_52, q_53⟩ => ?_)
                exact wp_so4 ⟨q_51, q_52, q_53, (by omega), (by omega)⟩
              ·
                have dc_44 := i_ne c_44
                have n_55 : (119 : Int32).toInt = 119 := by decide
                refine wp_if (fun c_54 => ?_) (fun c_54 => ?_)
                ·
                  have dc_54 := i_eq c_54
                  refine wp_so1 ?_
                  show wp _ _
                  refine wp_ifn (by decide) ?_
                  have n_57 : (1 : Int32).toInt = 1 := by decide
                  refine wp_nm (fun y_12__56 h_y_12__56 => ?_)
                  have e_58 := i_addE h_y_12__56.symm (by omega) (by omega)
                  refine wp_bd2 (sf_X2_note hN h_2 h_3 h_5) (fun w_13__59 w_14__60 ⟨q_61, q_62, q_63⟩ => ?_)
                  exact wp_so4 ⟨q_61, q_62, q_63, (by omega), (by omega)⟩
                ·
                  have dc_54 := i_ne c_54
                  refine wp_so1 ?_
                  show wp _ _
                  refine wp_ifp (by decide) ?_
                  have n_65 : (6 : Int32).toInt = 6 := by decide
                  refine wp_if (fun c_64 => ?_) (fun c_64 => ?_)
                  ·
                    have dc_64 := i_le c_64
                    refine wp_of (uf_X2_readOne_99 _ _ _ _ _ _ _ _ _ _) ?_
                    refine wp_ifp c_64 ?_
                    refine wp_of (uf_X2_readOne_157 _ _ _ _ _ _ _ _) ?_
                    refine wp_bd1 (sf_X2_fail hN ) (fun w_44__66 _ => ?_)
                    exact wp_so4 ⟨h_2, h_3, h_5, (by omega), h_7⟩
                  ·
                    have dc_64 := i_nle c_64
                    have n_68 : (33 : Int32).toInt = 33 := by decide
                    refine wp_if (fun c_67 => ?_) (fun c_67 => ?_)
                    ·
                      have dc_67 := i_eq c_67
                      refine wp_of (uf_X2_readOne_62 _ _ _ _ _ _ _ _ _ _) ?_
                      have n_69 : (1 : Int32).toInt = 1 := by decide
                      refine wp_nm (fun y_20 h_y_20 => ?_)
                      have e_70 := i_addE h_y_20.symm (by omega) (by omega)
                      generalize hz_z : (x1 + (1 : Int32)) = z
                      have e_71 := i_addE hz_z (by omega) (by omega)
                      refine wp_bd4 (hgo _ _ _ _ _ _ _ h_0 h_1 h_2 h_3 h_4 h_5 (by omega) (by omega) (by omega) (by omega) (by omega)) (fun w_21 w_22 w_23 w_24 ⟨q_72, q_73, q_74, q_75, q_76⟩ => ?_)
                      refine wp_ifp c_67 ?_
                      refine wp_of (uf_X2_readOne_93 _ _ _ _ _ _ _ _ _) ?_
                      refine wp_bd2 (sf_X2_note hN q_72 q_73 q_74) (fun w_27 w_28 ⟨q_77, q_78, q_79⟩ => ?_)
                      exact wp_so4 ⟨q_77, q_78, q_79, (by omega), q_76⟩
                    ·
                      have dc_67 := i_ne c_67
                      have n_81 : (45 : Int32).toInt = 45 := by decide
                      refine wp_if (fun c_80 => ?_) (fun c_80 => ?_)
                      ·
                        have dc_80 := i_eq c_80
                        refine wp_of (uf_X2_readOne_62 _ _ _ _ _ _ _ _ _ _) ?_
                        have n_83 : (1 : Int32).toInt = 1 := by decide
                        refine wp_nm (fun y_20__82 h_y_20__82 => ?_)
                        have e_84 := i_addE h_y_20__82.symm (by omega) (by omega)
                        generalize hz_z__85 : (x1 + (1 : Int32)) = z__85
                        have e_86 := i_addE hz_z__85 (by omega) (by omega)
                        refine wp_bd4 (hgo _ _ _ _ _ _ _ h_0 h_1 h_2 h_3 h_4 h_5 (by omega) (by omega) (by omega) (by omega) (by omega)) (fun w_21__87 w_22__88 w_23__89 w_24__90 ⟨q_91, q_92, q_93, q_94, q_95⟩ => ?_)
                        refine wp_ifn c_67 ?_
                        refine wp_of (uf_X2_readOne_93 _ _ _ _ _ _ _ _ _) ?_
                        refine wp_bd2 (sf_X2_note hN q_91 q_92 q_93) (fun w_27__96 w_28__97 ⟨q_98, q_99, q_100⟩ => ?_)
                        exact wp_so4 ⟨q_98, q_99, q_100, (by omega), q_95⟩
                      ·
                        have dc_80 := i_ne c_80
                        refine wp_of (uf_X2_readOne_99 _ _ _ _ _ _ _ _ _ _) ?_
                        refine wp_ifn c_64 ?_
                        have n_102 : (40 : Int32).toInt = 40 := by decide
                        refine wp_if (fun c_101 => ?_) (fun c_101 => ?_)
                        ·
                          have dc_101 := i_eq c_101
                          have n_103 : (1 : Int32).toInt = 1 := by decide
                          refine wp_nm (fun y_32 h_y_32 => ?_)
                          have e_104 := i_addE h_y_32.symm (by omega) (by omega)
                          generalize hz_z__105 : (x1 + (1 : Int32)) = z__105
                          have e_106 := i_addE hz_z__105 (by omega) (by omega)
                          refine wp_bd4 (sf_X2_readEither hN h_0 h_1 h_2 h_3 h_4 h_5 (by omega) (by omega) (by omega) (by omega) (by omega) hgo) (fun w_33 w_34 w_35 w_36 ⟨q_107, q_108, q_109, q_110, q_111⟩ => ?_)
                          have n_112 : (41 : Int32).toInt = 41 := by decide
                          refine wp_bd1 (sf_X2_meets hN h_0 h_1 h_4 (by omega) (by omega)) (fun r_38 q_113 => ?_)
                          rcases q_113 with ⟨rfl, q_113⟩ | ⟨rfl, q_113⟩
                          ·
                            refine wp_ifn (by decide) ?_
                            refine wp_nm (fun y_43 h_y_43 => ?_)
                            have e_114 := i_addE h_y_43.symm (by omega) (by omega)
                            exact wp_so4 ⟨q_107, q_108, q_109, (by omega), (by omega)⟩
                          ·
                            refine wp_ifp (by decide) ?_
                            refine wp_bd1 (sf_X2_fail hN ) (fun w_41 _ => ?_)
                            exact wp_so4 ⟨q_107, q_108, q_109, (by omega), q_111⟩
                        ·
                          have dc_101 := i_ne c_101
                          refine wp_of (uf_X2_readOne_157 _ _ _ _ _ _ _ _) ?_
                          refine wp_bd1 (sf_X2_fail hN ) (fun w_44__115 _ => ?_)
                          exact wp_so4 ⟨h_2, h_3, h_5, (by omega), h_7⟩
    ·
      have dc_5 := i_nlt c_5
      have n_117 : (57 : Int32).toInt = 57 := by decide
      refine wp_if (fun c_116 => ?_) (fun c_116 => ?_)
      ·
        have dc_116 := i_lt c_116
        refine wp_so1 ?_
        show wp _ _
        refine wp_ifp (by decide) ?_
        refine wp_in1 ?_
        refine wp_of (uf_X2_isName _ _) ?_
        have n_119 : (98 : Int32).toInt = 98 := by decide
        refine wp_if (fun c_118 => ?_) (fun c_118 => ?_)
        ·
          have dc_118 := i_eq c_118
          refine wp_so1 ?_
          show wp _ _
          refine wp_ifn (by decide) ?_
          have n_121 : (1 : Int32).toInt = 1 := by decide
          refine wp_nm (fun y_12__120 h_y_12__120 => ?_)
          have e_122 := i_addE h_y_12__120.symm (by omega) (by omega)
          refine wp_bd2 (sf_X2_note hN h_2 h_3 h_5) (fun w_13__123 w_14__124 ⟨q_125, q_126, q_127⟩ => ?_)
          exact wp_so4 ⟨q_125, q_126, q_127, (by omega), (by omega)⟩
        ·
          have dc_118 := i_ne c_118
          have n_129 : (102 : Int32).toInt = 102 := by decide
          refine wp_if (fun c_128 => ?_) (fun c_128 => ?_)
          ·
            have dc_128 := i_eq c_128
            refine wp_so1 ?_
            show wp _ _
            refine wp_ifn (by decide) ?_
            have n_131 : (1 : Int32).toInt = 1 := by decide
            refine wp_nm (fun y_12__130 h_y_12__130 => ?_)
            have e_132 := i_addE h_y_12__130.symm (by omega) (by omega)
            refine wp_bd2 (sf_X2_note hN h_2 h_3 h_5) (fun w_13__133 w_14__134 ⟨q_135, q_136, q_137⟩ => ?_)
            exact wp_so4 ⟨q_135, q_136, q_137, (by omega), (by omega)⟩
          ·
            have dc_128 := i_ne c_128
            have n_139 : (107 : Int32).toInt = 107 := by decide
            refine wp_if (fun c_138 => ?_) (fun c_138 => ?_)
            ·
              have dc_138 := i_eq c_138
              refine wp_so1 ?_
              show wp _ _
              refine wp_ifn (by decide) ?_
              have n_141 : (1 : Int32).toInt = 1 := by decide
              refine wp_nm (fun y_12__140 h_y_12__140 => ?_)
              have e_142 := i_addE h_y_12__140.symm (by omega) (by omega)
              refine wp_bd2 (sf_X2_note hN h_2 h_3 h_5) (fun w_13__143 w_14__144 ⟨q_145, q_146, q_147⟩ => ?_)
              exact wp_so4 ⟨q_145, q_146, q_147, (by omega), (by omega)⟩
            ·
              have dc_138 := i_ne c_138
              have n_149 : (110 : Int32).toInt = 110 := by decide
              refine wp_if (fun c_148 => ?_) (fun c_148 => ?_)
              ·
                have dc_148 := i_eq c_148
                refine wp_so1 ?_
                show wp _ _
                refine wp_ifn (by decide) ?_
                have n_151 : (1 : Int32).toInt = 1 := by decide
                refine wp_nm (fun y_12__150 h_y_12__150 => ?_)
                have e_152 := i_addE h_y_12__150.symm (by omega) (by omega)
                refine wp_bd2 (sf_X2_note hN h_2 h_3 h_5) (fun w_13__153 w_14__154 ⟨q_155, q_156, q_157⟩ => ?_)
                exact wp_so4 ⟨q_155, q_156, q_157, (by omega), (by omega)⟩
              ·
                have dc_148 := i_ne c_148
                have n_159 : (114 : Int32).toInt = 114 := by decide
                refine wp_if (fun c_158 => ?_) (fun c_158 => ?_)
                ·
                  have dc_158 := i_eq c_158
                  refine wp_so1 ?_
                  show wp _ _
                  refine wp_ifn (by decide) ?_
                  have n_161 : (1 : Int32).toInt = 1 := by decide
                  refine wp_nm (fun y_12__160 h_y_12__160 => ?_)
                  have e_162 := i_addE h_y_12__160.symm (by omega) (by omega)
                  refine wp_bd2 (sf_X2_note hN h_2 h_3 h_5) (fun w_13__163 w_14__164 ⟨q_165, q_166, q_167⟩ => ?_)
                  exact wp_so4 ⟨q_165, q_166, q_167, (by omega), (by omega)⟩
                ·
                  have dc_158 := i_ne c_158
                  have n_169 : (119 : Int32).toInt = 119 := by decide
                  refine wp_if (fun c_168 => ?_) (fun c_168 => ?_)
                  ·
                    have dc_168 := i_eq c_168
                    refine wp_so1 ?_
                    show wp _ _
                    refine wp_ifn (by decide) ?_
                    have n_171 : (1 : Int32).toInt = 1 := by decide
                    refine wp_nm (fun y_12__170 h_y_12__170 => ?_)
                    have e_172 := i_addE h_y_12__170.symm (by omega) (by omega)
                    refine wp_bd2 (sf_X2_note hN h_2 h_3 h_5) (fun w_13__173 w_14__174 ⟨q_175, q_176, q_177⟩ => ?_)
                    exact wp_so4 ⟨q_175, q_176, q_177, (by omega), (by omega)⟩
                  ·
                    have dc_168 := i_ne c_168
                    refine wp_so1 ?_
                    show wp _ _
                    refine wp_ifp (by decide) ?_
                    have n_179 : (6 : Int32).toInt = 6 := by decide
                    refine wp_if (fun c_178 => ?_) (fun c_178 => ?_)
                    ·
                      have dc_178 := i_le c_178
                      refine wp_of (uf_X2_readOne_99 _ _ _ _ _ _ _ _ _ _) ?_
                      refine wp_ifp c_178 ?_
                      refine wp_of (uf_X2_readOne_157 _ _ _ _ _ _ _ _) ?_
                      refine wp_bd1 (sf_X2_fail hN ) (fun w_44__180 _ => ?_)
                      exact wp_so4 ⟨h_2, h_3, h_5, (by omega), h_7⟩
                    ·
                      have dc_178 := i_nle c_178
                      have n_182 : (33 : Int32).toInt = 33 := by decide
                      refine wp_if (fun c_181 => ?_) (fun c_181 => ?_)
                      ·
                        have dc_181 := i_eq c_181
                        refine wp_of (uf_X2_readOne_62 _ _ _ _ _ _ _ _ _ _) ?_
                        have n_184 : (1 : Int32).toInt = 1 := by decide
                        refine wp_nm (fun y_20__183 h_y_20__183 => ?_)
                        have e_185 := i_addE h_y_20__183.symm (by omega) (by omega)
                        generalize hz_z__186 : (x1 + (1 : Int32)) = z__186
                        have e_187 := i_addE hz_z__186 (by omega) (by omega)
                        refine wp_bd4 (hgo _ _ _ _ _ _ _ h_0 h_1 h_2 h_3 h_4 h_5 (by omega) (by omega) (by omega) (by omega) (by omega)) (fun w_21__188 w_22__189 w_23__190 w_24__191 ⟨q_192, q_193, q_194, q_195, q_196⟩ => ?_)
                        refine wp_ifp c_181 ?_
                        refine wp_of (uf_X2_readOne_93 _ _ _ _ _ _ _ _ _) ?_
                        refine wp_bd2 (sf_X2_note hN q_192 q_193 q_194) (fun w_27__197 w_28__198 ⟨q_199, q_200, q_201⟩ => ?_)
                        exact wp_so4 ⟨q_199, q_200, q_201, (by omega), q_196⟩
                      ·
                        have dc_181 := i_ne c_181
                        have n_203 : (45 : Int32).toInt = 45 := by decide
                        refine wp_if (fun c_202 => ?_) (fun c_202 => ?_)
                        ·
                          have dc_202 := i_eq c_202
                          refine wp_of (uf_X2_readOne_62 _ _ _ _ _ _ _ _ _ _) ?_
                          have n_205 : (1 : Int32).toInt = 1 := by decide
                          refine wp_nm (fun y_20__204 h_y_20__204 => ?_)
                          have e_206 := i_addE h_y_20__204.symm (by omega) (by omega)
                          generalize hz_z__207 : (x1 + (1 : Int32)) = z__207
                          have e_208 := i_addE hz_z__207 (by omega) (by omega)
                          refine wp_bd4 (hgo _ _ _ _ _ _ _ h_0 h_1 h_2 h_3 h_4 h_5 (by omega) (by omega) (by omega) (by omega) (by omega)) (fun w_21__209 w_22__210 w_23__211 w_24__212 ⟨q_213, q_214, q_215, q_216, q_217⟩ => ?_)
                          refine wp_ifn c_181 ?_
                          refine wp_of (uf_X2_readOne_93 _ _ _ _ _ _ _ _ _) ?_
                          refine wp_bd2 (sf_X2_note hN q_213 q_214 q_215) (fun w_27__218 w_28__219 ⟨q_220, q_221, q_222⟩ => ?_)
                          exact wp_so4 ⟨q_220, q_221, q_222, (by omega), q_217⟩
                        ·
                          have dc_202 := i_ne c_202
                          refine wp_of (uf_X2_readOne_99 _ _ _ _ _ _ _ _ _ _) ?_
                          refine wp_ifn c_178 ?_
                          have n_224 : (40 : Int32).toInt = 40 := by decide
                          refine wp_if (fun c_223 => ?_) (fun c_223 => ?_)
                          ·
                            have dc_223 := i_eq c_223
                            have n_226 : (1 : Int32).toInt = 1 := by decide
                            refine wp_nm (fun y_32__225 h_y_32__225 => ?_)
                            have e_227 := i_addE h_y_32__225.symm (by omega) (by omega)
                            generalize hz_z__228 : (x1 + (1 : Int32)) = z__228
                            have e_229 := i_addE hz_z__228 (by omega) (by omega)
                            refine wp_bd4 (sf_X2_readEither hN h_0 h_1 h_2 h_3 h_4 h_5 (by omega) (by omega) (by omega) (by omega) (by omega) hgo) (fun w_33__230 w_34__231 w_35__232 w_36__233 ⟨q_234, q_235, q_236, q_237, q_238⟩ => ?_)
                            have n_239 : (41 : Int32).toInt = 41 := by decide
                            refine wp_bd1 (sf_X2_meets hN h_0 h_1 h_4 (by omega) (by omega)) (fun r_38__240 q_241 => ?_)
                            rcases q_241 with ⟨rfl, q_241⟩ | ⟨rfl, q_241⟩
                            ·
                              refine wp_ifn (by decide) ?_
                              refine wp_nm (fun y_43__242 h_y_43__242 => ?_)
                              have e_243 := i_addE h_y_43__242.symm (by omega) (by omega)
                              exact wp_so4 ⟨q_234, q_235, q_236, (by omega), (by omega)⟩
                            ·
                              refine wp_ifp (by decide) ?_
                              refine wp_bd1 (sf_X2_fail hN ) (fun w_41__244 _ => ?_)
                              exact wp_so4 ⟨q_234, q_235, q_236, (by omega), q_238⟩
                          ·
                            have dc_223 := i_ne c_223
                            refine wp_of (uf_X2_readOne_157 _ _ _ _ _ _ _ _) ?_
                            refine wp_bd1 (sf_X2_fail hN ) (fun w_44__245 _ => ?_)
                            exact wp_so4 ⟨h_2, h_3, h_5, (by omega), h_7⟩
      ·
        have dc_116 := i_nlt c_116
        refine wp_so1 ?_
        show wp _ _
        refine wp_ifn (by decide) ?_
        refine wp_bd3 (sf_X2_readNumber hN h_0 h_1 h_2 h_3 h_4 h_5 h_6 h_7) (fun w_16 w_17 w_18 ⟨q_246, q_247, q_248, q_249, q_250⟩ => ?_)
        exact wp_so4 ⟨q_246, q_247, q_248, q_249, q_250⟩
set_option maxHeartbeats 4000000 in
set_option maxRecDepth 20000 in
theorem sf_X2_readOne {N : Nat} (hN : 700 ≤ N) : ∀ (M : Nat) (x1 : Int32) (v_size : Int32) (v_draftCount : Int32) (v_place : Int32) (v_fault : Int32) (v_tape : List Int32) (v_draft : List Int32), 0 ≤ v_size.toInt → v_size.toInt ≤ 120 → 0 ≤ v_draftCount.toInt → v_draftCount.toInt ≤ 121 → v_tape.length = 120 → v_draft.length = 121 → 0 ≤ v_place.toInt → v_place.toInt ≤ v_size.toInt → 0 ≤ x1.toInt → x1.toInt ≤ 6 → 7 - (M : Int) ≤ x1.toInt → wp (fX2_readOne N M x1 v_size v_draftCount v_place v_fault v_tape v_draft) (cu4 (fun (wv_draftCount : Int32) (wv_place : Int32) (wv_fault : Int32) (wv_draft : List Int32) => 0 ≤ wv_draftCount.toInt ∧ wv_draftCount.toInt ≤ 121 ∧ wv_draft.length = 121 ∧ v_place.toInt ≤ wv_place.toInt ∧ wv_place.toInt ≤ v_size.toInt)) := by
  intro M
  induction M with
  | zero =>
    intro x1 v_size v_draftCount v_place v_fault v_tape v_draft h_0 h_1 h_2 h_3 h_4 h_5 h_6 h_7 h_8 h_9 hK
    exact absurd hK (by omega)
  | succ M ih =>
    intro x1 v_size v_draftCount v_place v_fault v_tape v_draft h_0 h_1 h_2 h_3 h_4 h_5 h_6 h_7 h_8 h_9 hK
    rw [uf_X2_readOne]
    exact sf_X2_readOneo (K := 7 - (M : Int)) hN h_0 h_1 h_2 h_3 h_4 h_5 h_6 h_7 h_8 h_9 (by omega) ih
set_option maxHeartbeats 4000000 in
set_option maxRecDepth 20000 in
theorem sf_X2_readOne_go {N : Nat} (hN : 700 ≤ N) : ∀ (x1 : Int32) (v_size : Int32) (v_draftCount : Int32) (v_place : Int32) (v_fault : Int32) (v_tape : List Int32) (v_draft : List Int32), 0 ≤ v_size.toInt → v_size.toInt ≤ 120 → 0 ≤ v_draftCount.toInt → v_draftCount.toInt ≤ 121 → v_tape.length = 120 → v_draft.length = 121 → 0 ≤ v_place.toInt → v_place.toInt ≤ v_size.toInt → 0 ≤ x1.toInt → x1.toInt ≤ 6 → (0 : Int) ≤ x1.toInt → wp (fX2_readOne N 8 x1 v_size v_draftCount v_place v_fault v_tape v_draft) (cu4 (fun (wv_draftCount : Int32) (wv_place : Int32) (wv_fault : Int32) (wv_draft : List Int32) => 0 ≤ wv_draftCount.toInt ∧ wv_draftCount.toInt ≤ 121 ∧ wv_draft.length = 121 ∧ v_place.toInt ≤ wv_place.toInt ∧ wv_place.toInt ≤ v_size.toInt)) := fun x1 v_size v_draftCount v_place v_fault v_tape v_draft h_0 h_1 h_2 h_3 h_4 h_5 h_6 h_7 h_8 h_9 _ => sf_X2_readOne hN 8 x1 v_size v_draftCount v_place v_fault v_tape v_draft h_0 h_1 h_2 h_3 h_4 h_5 h_6 h_7 h_8 h_9 (by omega)
set_option maxHeartbeats 4000000 in
set_option maxRecDepth 20000 in
theorem sf_X2_readOne_at {N : Nat} {M : Nat} (hN : 700 ≤ N) {x1 : Int32} {v_size : Int32} {v_draftCount : Int32} {v_place : Int32} {v_fault : Int32} {v_tape : List Int32} {v_draft : List Int32} (h_0 : 0 ≤ v_size.toInt) (h_1 : v_size.toInt ≤ 120) (h_2 : 0 ≤ v_draftCount.toInt) (h_3 : v_draftCount.toInt ≤ 121) (h_4 : v_tape.length = 120) (h_5 : v_draft.length = 121) (h_6 : 0 ≤ v_place.toInt) (h_7 : v_place.toInt ≤ v_size.toInt) (h_8 : 0 ≤ x1.toInt) (h_9 : x1.toInt ≤ 6) (hK : 7 - (M : Int) ≤ x1.toInt) : wp (fX2_readOne N M x1 v_size v_draftCount v_place v_fault v_tape v_draft) (cu4 (fun (wv_draftCount : Int32) (wv_place : Int32) (wv_fault : Int32) (wv_draft : List Int32) => 0 ≤ wv_draftCount.toInt ∧ wv_draftCount.toInt ≤ 121 ∧ wv_draft.length = 121 ∧ v_place.toInt ≤ wv_place.toInt ∧ wv_place.toInt ≤ v_size.toInt)) := sf_X2_readOne hN M x1 v_size v_draftCount v_place v_fault v_tape v_draft h_0 h_1 h_2 h_3 h_4 h_5 h_6 h_7 h_8 h_9 hK

theorem uf_X2_readLine (N : Nat) (v_size : Int32) (v_draftCount : Int32) (v_place : Int32) (v_fault : Int32) (v_tape : List Int32) (v_draft : List Int32) : fX2_readLine N v_size v_draftCount v_place v_fault v_tape v_draft = mm_bd4 (fX2_readEither N (fX2_readOne N 8) (0 : Int32) v_size v_draftCount v_place v_fault v_tape v_draft) (fun (w_1 : Int32) (w_2 : Int32) (w_3 : Int32) (w_4 : List Int32) =>
    mm_bd1 (fX2_meets N (63 : Int32) v_size w_2 w_3 v_tape) (fun (r_6 : Bool) =>
    if r_6 = false then
    (fX2_readLine_35 N v_size w_1 w_2 w_3 v_tape w_4)
    else (mm_nm ((w_2 + (1 : Int32))) (fun (y_9 : Int32) =>
    mm_bd2 (fX2_note N (63 : Int32) w_1 w_4) (fun (w_10 : Int32) (w_11 : List Int32) =>
    mm_bd4 (fX2_readEither N (fX2_readOne N 8) (0 : Int32) v_size w_10 y_9 w_3 v_tape w_11) (fun (w_13 : Int32) (w_14 : Int32) (w_15 : Int32) (w_16 : List Int32) =>
    fX2_readLine_35 N v_size w_13 w_14 w_15 v_tape w_16)))))) := rfl

theorem uf_X2_readLine_35 (N : Nat) (v_size : Int32) (v_draftCount : Int32) (v_place : Int32) (v_fault : Int32) (v_tape : List Int32) (v_draft : List Int32) : fX2_readLine_35 N v_size v_draftCount v_place v_fault v_tape v_draft = mm_bd2 (fX2_note N (59 : Int32) v_draftCount v_draft) (fun (w_18 : Int32) (w_19 : List Int32) =>
    some (w_18, v_place, v_fault, w_19)) := rfl

set_option maxHeartbeats 4000000 in
set_option maxRecDepth 20000 in
theorem sf_X2_readLine {N : Nat} (hN : 700 ≤ N) {v_size : Int32} {v_draftCount : Int32} {v_place : Int32} {v_fault : Int32} {v_tape : List Int32} {v_draft : List Int32} (h_0 : 0 ≤ v_size.toInt) (h_1 : v_size.toInt ≤ 120) (h_2 : 0 ≤ v_draftCount.toInt) (h_3 : v_draftCount.toInt ≤ 121) (h_4 : v_tape.length = 120) (h_5 : v_draft.length = 121) (h_6 : 0 ≤ v_place.toInt) (h_7 : v_place.toInt ≤ v_size.toInt) : wp (fX2_readLine N v_size v_draftCount v_place v_fault v_tape v_draft) (cu4 (fun (wv_draftCount : Int32) (wv_place : Int32) (wv_fault : Int32) (wv_draft : List Int32) => 0 ≤ wv_draftCount.toInt ∧ wv_draftCount.toInt ≤ 121 ∧ wv_draft.length = 121 ∧ v_place.toInt ≤ wv_place.toInt ∧ wv_place.toInt ≤ v_size.toInt)) := by
  refine wp_of (uf_X2_readLine _ _ _ _ _ _ _) ?_
  have n_1 : (0 : Int32).toInt = 0 := by decide
  refine wp_bd4 (sf_X2_readEither hN h_0 h_1 h_2 h_3 h_4 h_5 h_6 h_7 (by omega) (by omega) (by omega) (sf_X2_readOne_go hN)) (fun w_1 w_2 w_3 w_4 ⟨q_2, q_3, q_4, q_5, q_6⟩ => ?_)
  have n_7 : (63 : Int32).toInt = 63 := by decide
  refine wp_bd1 (sf_X2_meets hN h_0 h_1 h_4 (by omega) (by omega)) (fun r_6 q_8 => ?_)
  rcases q_8 with ⟨rfl, q_8⟩ | ⟨rfl, q_8⟩
  ·
    refine wp_ifn (by decide) ?_
    have n_9 : (1 : Int32).toInt = 1 := by decide
    refine wp_nm (fun y_9 h_y_9 => ?_)
    have e_10 := i_addE h_y_9.symm (by omega) (by omega)
    refine wp_bd2 (sf_X2_note hN q_2 q_3 q_4) (fun w_10 w_11 ⟨q_11, q_12, q_13⟩ => ?_)
    refine wp_bd4 (sf_X2_readEither hN h_0 h_1 q_11 q_12 h_4 q_13 (by omega) (by omega) (by omega) (by omega) (by omega) (sf_X2_readOne_go hN)) (fun w_13 w_14 w_15 w_16 ⟨q_14, q_15, q_16, q_17, q_18⟩ => ?_)
    refine wp_of (uf_X2_readLine_35 _ _ _ _ _ _ _) ?_
    refine wp_bd2 (sf_X2_note hN q_14 q_15 q_16) (fun w_18 w_19 ⟨q_19, q_20, q_21⟩ => ?_)
    exact wp_so4 ⟨q_19, q_20, q_21, (by omega), q_18⟩
  ·
    refine wp_ifp (by decide) ?_
    refine wp_of (uf_X2_readLine_35 _ _ _ _ _ _ _) ?_
    refine wp_bd2 (sf_X2_note hN q_2 q_3 q_4) (fun w_18__22 w_19__23 ⟨q_24, q_25, q_26⟩ => ?_)
    exact wp_so4 ⟨q_24, q_25, q_26, q_5, q_6⟩

theorem uf_X2_readTape_108 (N : Nat) (v_size : Int32) (v_stepCount : Int32) (v_draftCount : Int32) (v_place : Int32) (v_fault : Int32) (v_tape : List Int32) (v_steps : List Int32) (v_draft : List Int32) : fX2_readTape_108 N v_size v_stepCount v_draftCount v_place v_fault v_tape v_steps v_draft = some (v_fault, v_size, v_stepCount, v_draftCount, v_place, v_fault, v_steps, v_draft) := rfl

theorem uf_X2_readTape_21 (N : Nat) (n : Nat) (x1 : Int32) (v_size : Int32) (v_stepCount : Int32) (v_draftCount : Int32) (v_place : Int32) (v_fault : Int32) (v_tape : List Int32) (v_steps : List Int32) (v_draft : List Int32) : fX2_readTape_21 N (n + 1) x1 v_size v_stepCount v_draftCount v_place v_fault v_tape v_steps v_draft = 
    if (120 : Int32) ≤ x1 then
    (fX2_readTape_56 N v_size v_stepCount v_draftCount v_place v_fault v_tape v_steps v_draft)
    else (mm_bd1 (fX2_meets N (59 : Int32) v_size v_place v_fault v_tape) (fun (r_7 : Bool) =>
    if r_7 = false then
    (fX2_readTape_56 N v_size v_stepCount v_draftCount v_place v_fault v_tape v_steps v_draft)
    else (mm_nm ((v_place + (1 : Int32))) (fun (y_10 : Int32) =>
    mm_bd4 (fX2_readLine N v_size v_draftCount y_10 v_fault v_tape v_draft) (fun (w_11 : Int32) (w_12 : Int32) (w_13 : Int32) (w_14 : List Int32) =>
    mm_nm (x1 + (1 : Int32)) (fun (y_16 : Int32) =>
    fX2_readTape_21 N n y_16 v_size v_stepCount w_11 w_12 w_13 v_tape v_steps w_14)))))) := rfl

theorem uf_X2_readTape_56 (N : Nat) (v_size : Int32) (v_stepCount : Int32) (v_draftCount : Int32) (v_place : Int32) (v_fault : Int32) (v_tape : List Int32) (v_steps : List Int32) (v_draft : List Int32) : fX2_readTape_56 N v_size v_stepCount v_draftCount v_place v_fault v_tape v_steps v_draft = if v_size ≤ v_place then
    (fX2_readTape_71 N v_size v_stepCount v_draftCount v_place v_fault v_tape v_steps v_draft)
    else (mm_bd1 (fX2_fail N v_place v_fault) (fun (w_18 : Int32) =>
    fX2_readTape_71 N v_size v_stepCount v_draftCount v_place w_18 v_tape v_steps v_draft)) := rfl

theorem uf_X2_readTape_71 (N : Nat) (v_size : Int32) (v_stepCount : Int32) (v_draftCount : Int32) (v_place : Int32) (v_fault : Int32) (v_tape : List Int32) (v_steps : List Int32) (v_draft : List Int32) : fX2_readTape_71 N v_size v_stepCount v_draftCount v_place v_fault v_tape v_steps v_draft = if 0 ≤ v_fault then
    (fX2_readTape_108 N (0 : Int32) v_stepCount v_draftCount v_place v_fault v_tape v_steps v_draft)
    else (mm_ck (mm_cok (0 : Int32) (0 : Int32) v_draftCount v_draft.length v_steps.length) (mm_nm (mm_cp v_draft v_steps (0 : Int32) (0 : Int32) v_draftCount) (fun (l_22 : List Int32) =>
    fX2_readTape_108 N (0 : Int32) v_draftCount v_draftCount v_place v_fault v_tape l_22 v_draft))) := rfl

set_option maxHeartbeats 4000000 in
set_option maxRecDepth 20000 in
theorem sf_X2_readTape_21 {N : Nat} (hN : 700 ≤ N)  : ∀ (n : Nat) (x1 : Int32) (v_size : Int32) (v_stepCount : Int32) (v_draftCount : Int32) (v_place : Int32) (v_fault : Int32) (v_tape : List Int32) (v_steps : List Int32) (v_draft : List Int32), 0 ≤ v_size.toInt → v_size.toInt ≤ 120 → 0 ≤ v_stepCount.toInt → v_stepCount.toInt ≤ 121 → 0 ≤ v_draftCount.toInt → v_draftCount.toInt ≤ 121 → v_tape.length = 120 → v_steps.length = 121 → v_draft.length = 121 → 0 ≤ v_place.toInt → v_place.toInt ≤ v_size.toInt → 0 ≤ x1.toInt → x1.toInt ≤ 120 → (120 - x1.toInt).toNat < n → wp (fX2_readTape_21 N n x1 v_size v_stepCount v_draftCount v_place v_fault v_tape v_steps v_draft) (cu8 (fun (r : Int32) (wv_size : Int32) (wv_stepCount : Int32) (wv_draftCount : Int32) (wv_place : Int32) (wv_fault : Int32) (wv_steps : List Int32) (wv_draft : List Int32) => 0 ≤ wv_size.toInt ∧ wv_size.toInt ≤ 120 ∧ 0 ≤ wv_stepCount.toInt ∧ wv_stepCount.toInt ≤ 121 ∧ 0 ≤ wv_draftCount.toInt ∧ wv_draftCount.toInt ≤ 121 ∧ wv_steps.length = 121 ∧ wv_draft.length = 121)) := by
  intro n
  induction n with
  | zero =>
    intro x1 v_size v_stepCount v_draftCount v_place v_fault v_tape v_steps v_draft h_0 h_1 h_2 h_3 h_4 h_5 h_6 h_7 h_8 h_9 h_10 h_11 h_12 hm
    exact absurd hm (by omega)
  | succ n ih =>
    intro x1 v_size v_stepCount v_draftCount v_place v_fault v_tape v_steps v_draft h_0 h_1 h_2 h_3 h_4 h_5 h_6 h_7 h_8 h_9 h_10 h_11 h_12 hm
    refine wp_of (uf_X2_readTape_21 _ _ _ _ _ _ _ _ _ _ _) ?_
    have n_2 : (120 : Int32).toInt = 120 := by decide
    refine wp_if (fun c_1 => ?_) (fun c_1 => ?_)
    ·
      have dc_1 := i_le c_1
      refine wp_of (uf_X2_readTape_56 _ _ _ _ _ _ _ _ _) ?_
      refine wp_if (fun c_3 => ?_) (fun c_3 => ?_)
      ·
        have dc_3 := i_le c_3
        refine wp_of (uf_X2_readTape_71 _ _ _ _ _ _ _ _ _) ?_
        have n_5 : (0 : Int32).toInt = 0 := by decide
        refine wp_if (fun c_4 => ?_) (fun c_4 => ?_)
        ·
          have dc_4 := i_le c_4
          refine wp_of (uf_X2_readTape_108 _ _ _ _ _ _ _ _ _) ?_
          exact wp_so8 ⟨(by omega), (by omega), h_2, h_3, h_4, h_5, h_7, h_8⟩
        ·
          have dc_4 := i_nle c_4
          have hc_6 : (mm_cok (0 : Int32) (0 : Int32) v_draftCount v_draft.length v_steps.length) = true := i_cok (by omega) (by omega) (by omega) (by omega) (by omega)
          refine wp_ck hc_6 ?_
          refine wp_nm (fun l_22 h_l_22 => ?_)
          have nl_l_22 : l_22.length = 121 := by rw [h_l_22, cp_len hc_6]; assumption
          refine wp_of (uf_X2_readTape_108 _ _ _ _ _ _ _ _ _) ?_
          exact wp_so8 ⟨(by omega), (by omega), h_4, h_5, h_4, h_5, nl_l_22, h_8⟩
      ·
        have dc_3 := i_nle c_3
        refine wp_bd1 (sf_X2_fail hN ) (fun w_18 _ => ?_)
        refine wp_of (uf_X2_readTape_71 _ _ _ _ _ _ _ _ _) ?_
        have n_8 : (0 : Int32).toInt = 0 := by decide
        refine wp_if (fun c_7 => ?_) (fun c_7 => ?_)
        ·
          have dc_7 := i_le c_7
          refine wp_of (uf_X2_readTape_108 _ _ _ _ _ _ _ _ _) ?_
          exact wp_so8 ⟨(by omega), (by omega), h_2, h_3, h_4, h_5, h_7, h_8⟩
        ·
          have dc_7 := i_nle c_7
          have hc_9 : (mm_cok (0 : Int32) (0 : Int32) v_draftCount v_draft.length v_steps.length) = true := i_cok (by omega) (by omega) (by omega) (by omega) (by omega)
          refine wp_ck hc_9 ?_
          refine wp_nm (fun l_22__10 h_l_22__10 => ?_)
          have nl_l_22__10 : l_22__10.length = 121 := by rw [h_l_22__10, cp_len hc_9]; assumption
          refine wp_of (uf_X2_readTape_108 _ _ _ _ _ _ _ _ _) ?_
          exact wp_so8 ⟨(by omega), (by omega), h_4, h_5, h_4, h_5, nl_l_22__10, h_8⟩
    ·
      have dc_1 := i_nle c_1
      have n_11 : (59 : Int32).toInt = 59 := by decide
      refine wp_bd1 (sf_X2_meets hN h_0 h_1 h_6 h_9 (by omega)) (fun r_7 q_12 => ?_)
      rcases q_12 with ⟨rfl, q_12⟩ | ⟨rfl, q_12⟩
      ·
        refine wp_ifn (by decide) ?_
        have n_13 : (1 : Int32).toInt = 1 := by decide
        refine wp_nm (fun y_10 h_y_10 => ?_)
        have e_14 := i_addE h_y_10.symm (by omega) (by omega)
        refine wp_bd4 (sf_X2_readLine hN h_0 h_1 h_4 h_5 h_6 h_8 (by omega) (by omega)) (fun w_11 w_12 w_13 w_14 ⟨q_15, q_16, q_17, q_18, q_19⟩ => ?_)
        refine wp_nm (fun y_16 h_y_16 => ?_)
        have e_20 := i_addE h_y_16.symm (by omega) (by omega)
        exact ih _ _ _ _ _ _ _ _ _ h_0 h_1 h_2 h_3 q_15 q_16 h_6 h_7 q_17 (by omega) q_19 (by omega) (by omega) (by omega)
      ·
        refine wp_ifp (by decide) ?_
        refine wp_of (uf_X2_readTape_56 _ _ _ _ _ _ _ _ _) ?_
        refine wp_if (fun c_21 => ?_) (fun c_21 => ?_)
        ·
          have dc_21 := i_le c_21
          refine wp_of (uf_X2_readTape_71 _ _ _ _ _ _ _ _ _) ?_
          have n_23 : (0 : Int32).toInt = 0 := by decide
          refine wp_if (fun c_22 => ?_) (fun c_22 => ?_)
          ·
            have dc_22 := i_le c_22
            refine wp_of (uf_X2_readTape_108 _ _ _ _ _ _ _ _ _) ?_
            exact wp_so8 ⟨(by omega), (by omega), h_2, h_3, h_4, h_5, h_7, h_8⟩
          ·
            have dc_22 := i_nle c_22
            have hc_24 : (mm_cok (0 : Int32) (0 : Int32) v_draftCount v_draft.length v_steps.length) = true := i_cok (by omega) (by omega) (by omega) (by omega) (by omega)
            refine wp_ck hc_24 ?_
            refine wp_nm (fun l_22__25 h_l_22__25 => ?_)
            have nl_l_22__25 : l_22__25.length = 121 := by rw [h_l_22__25, cp_len hc_24]; assumption
            refine wp_of (uf_X2_readTape_108 _ _ _ _ _ _ _ _ _) ?_
            exact wp_so8 ⟨(by omega), (by omega), h_4, h_5, h_4, h_5, nl_l_22__25, h_8⟩
        ·
          have dc_21 := i_nle c_21
          refine wp_bd1 (sf_X2_fail hN ) (fun w_18__26 _ => ?_)
          refine wp_of (uf_X2_readTape_71 _ _ _ _ _ _ _ _ _) ?_
          have n_28 : (0 : Int32).toInt = 0 := by decide
          refine wp_if (fun c_27 => ?_) (fun c_27 => ?_)
          ·
            have dc_27 := i_le c_27
            refine wp_of (uf_X2_readTape_108 _ _ _ _ _ _ _ _ _) ?_
            exact wp_so8 ⟨(by omega), (by omega), h_2, h_3, h_4, h_5, h_7, h_8⟩
          ·
            have dc_27 := i_nle c_27
            have hc_29 : (mm_cok (0 : Int32) (0 : Int32) v_draftCount v_draft.length v_steps.length) = true := i_cok (by omega) (by omega) (by omega) (by omega) (by omega)
            refine wp_ck hc_29 ?_
            refine wp_nm (fun l_22__30 h_l_22__30 => ?_)
            have nl_l_22__30 : l_22__30.length = 121 := by rw [h_l_22__30, cp_len hc_29]; assumption
            refine wp_of (uf_X2_readTape_108 _ _ _ _ _ _ _ _ _) ?_
            exact wp_so8 ⟨(by omega), (by omega), h_4, h_5, h_4, h_5, nl_l_22__30, h_8⟩

theorem uf_X2_readTape (N : Nat) (v_size : Int32) (v_stepCount : Int32) (v_draftCount : Int32) (v_place : Int32) (v_fault : Int32) (v_tape : List Int32) (v_steps : List Int32) (v_draft : List Int32) : fX2_readTape N v_size v_stepCount v_draftCount v_place v_fault v_tape v_steps v_draft = mm_bd4 (fX2_readLine N v_size (0 : Int32) (0 : Int32) (-1 : Int32) v_tape v_draft) (fun (w_1 : Int32) (w_2 : Int32) (w_3 : Int32) (w_4 : List Int32) =>
    fX2_readTape_21 N N (0 : Int32) v_size v_stepCount w_1 w_2 w_3 v_tape v_steps w_4) := rfl

set_option maxHeartbeats 4000000 in
set_option maxRecDepth 20000 in
theorem sf_X2_readTape {N : Nat} (hN : 700 ≤ N) {v_size : Int32} {v_stepCount : Int32} {v_draftCount : Int32} {v_place : Int32} {v_fault : Int32} {v_tape : List Int32} {v_steps : List Int32} {v_draft : List Int32} (h_0 : 0 ≤ v_size.toInt) (h_1 : v_size.toInt ≤ 120) (h_2 : 0 ≤ v_stepCount.toInt) (h_3 : v_stepCount.toInt ≤ 121) (h_4 : 0 ≤ v_draftCount.toInt) (h_5 : v_draftCount.toInt ≤ 121) (h_6 : v_tape.length = 120) (h_7 : v_steps.length = 121) (h_8 : v_draft.length = 121) : wp (fX2_readTape N v_size v_stepCount v_draftCount v_place v_fault v_tape v_steps v_draft) (cu8 (fun (r : Int32) (wv_size : Int32) (wv_stepCount : Int32) (wv_draftCount : Int32) (wv_place : Int32) (wv_fault : Int32) (wv_steps : List Int32) (wv_draft : List Int32) => 0 ≤ wv_size.toInt ∧ wv_size.toInt ≤ 120 ∧ 0 ≤ wv_stepCount.toInt ∧ wv_stepCount.toInt ≤ 121 ∧ 0 ≤ wv_draftCount.toInt ∧ wv_draftCount.toInt ≤ 121 ∧ wv_steps.length = 121 ∧ wv_draft.length = 121)) := by
  refine wp_of (uf_X2_readTape _ _ _ _ _ _ _ _ _) ?_
  have n_1 : (0 : Int32).toInt = 0 := by decide
  refine wp_bd4 (sf_X2_readLine hN h_0 h_1 (by omega) (by omega) h_6 h_8 (by omega) (by omega)) (fun w_1 w_2 w_3 w_4 ⟨q_2, q_3, q_4, q_5, q_6⟩ => ?_)
  exact sf_X2_readTape_21 hN _ _ _ _ _ _ _ _ _ _ h_0 h_1 h_2 h_3 q_2 q_3 h_6 h_7 q_4 (by omega) q_6 (by omega) (by omega) (by omega)

theorem uf_X2_joined (N : Nat) (x0 : Int32) (x1 : Int32) (x2 : Int32) : fX2_joined N x0 x1 x2 = if x0 = (37 : Int32) then
    (if x2 = 0 then
    (some ((0 : Int32)))
    else (mm_ck (mm_nz x2) (some ((mm_rem x1 x2)))))
    else (if x0 = (38 : Int32) then
    (if x1 = 0 then
    (some ((0 : Int32)))
    else (if x2 = 0 then
    (some ((0 : Int32)))
    else (some ((1 : Int32)))))
    else (if x0 = (42 : Int32) then
    (some ((x1 * x2)))
    else (if x0 = (43 : Int32) then
    (some ((x1 + x2)))
    else (if x0 = (45 : Int32) then
    (some ((x1 - x2)))
    else (if x0 = (47 : Int32) then
    (if x2 = 0 then
    (some ((0 : Int32)))
    else (mm_ck (mm_nz x2) (some ((x1 / x2)))))
    else (if x0 = (60 : Int32) then
    (if x2 ≤ x1 then
    (some ((0 : Int32)))
    else (some ((1 : Int32))))
    else (if x0 = (61 : Int32) then
    (if x1 = x2 then
    (some ((1 : Int32)))
    else (some ((0 : Int32))))
    else (if x0 = (62 : Int32) then
    (if x1 ≤ x2 then
    (some ((0 : Int32)))
    else (some ((1 : Int32))))
    else (if x0 = (124 : Int32) then
    (if x1 = 0 then
    (if x2 = 0 then
    (some ((0 : Int32)))
    else (some ((1 : Int32))))
    else (some ((1 : Int32))))
    else (some ((0 : Int32)))))))))))) := rfl

set_option maxHeartbeats 4000000 in
set_option maxRecDepth 20000 in
theorem sf_X2_joined {N : Nat} (hN : 700 ≤ N) {x0 : Int32} {x1 : Int32} {x2 : Int32}  : wp (fX2_joined N x0 x1 x2) (fun (r : Int32) => True) := by
  refine wp_of (uf_X2_joined _ _ _ _) ?_
  have n_2 : (37 : Int32).toInt = 37 := by decide
  refine wp_if (fun c_1 => ?_) (fun c_1 => ?_)
  ·
    have dc_1 := i_eq c_1
    have n_4 : (0 : Int32).toInt = 0 := by decide
    refine wp_if (fun c_3 => ?_) (fun c_3 => ?_)
    ·
      have dc_3 := i_eq c_3
      exact wp_so1 trivial
    ·
      have dc_3 := i_ne c_3
      refine wp_ck (i_nz (by omega)) ?_
      exact wp_so1 trivial
  ·
    have dc_1 := i_ne c_1
    have n_6 : (38 : Int32).toInt = 38 := by decide
    refine wp_if (fun c_5 => ?_) (fun c_5 => ?_)
    ·
      have dc_5 := i_eq c_5
      have n_8 : (0 : Int32).toInt = 0 := by decide
      refine wp_if (fun c_7 => ?_) (fun c_7 => ?_)
      ·
        have dc_7 := i_eq c_7
        exact wp_so1 trivial
      ·
        have dc_7 := i_ne c_7
        refine wp_if (fun c_9 => ?_) (fun c_9 => ?_)
        ·
          have dc_9 := i_eq c_9
          exact wp_so1 trivial
        ·
          have dc_9 := i_ne c_9
          exact wp_so1 trivial
    ·
      have dc_5 := i_ne c_5
      have n_11 : (42 : Int32).toInt = 42 := by decide
      refine wp_if (fun c_10 => ?_) (fun c_10 => ?_)
      ·
        have dc_10 := i_eq c_10
        exact wp_so1 trivial
      ·
        have dc_10 := i_ne c_10
        have n_13 : (43 : Int32).toInt = 43 := by decide
        refine wp_if (fun c_12 => ?_) (fun c_12 => ?_)
        ·
          have dc_12 := i_eq c_12
          exact wp_so1 trivial
        ·
          have dc_12 := i_ne c_12
          have n_15 : (45 : Int32).toInt = 45 := by decide
          refine wp_if (fun c_14 => ?_) (fun c_14 => ?_)
          ·
            have dc_14 := i_eq c_14
            exact wp_so1 trivial
          ·
            have dc_14 := i_ne c_14
            have n_17 : (47 : Int32).toInt = 47 := by decide
            refine wp_if (fun c_16 => ?_) (fun c_16 => ?_)
            ·
              have dc_16 := i_eq c_16
              have n_19 : (0 : Int32).toInt = 0 := by decide
              refine wp_if (fun c_18 => ?_) (fun c_18 => ?_)
              ·
                have dc_18 := i_eq c_18
                exact wp_so1 trivial
              ·
                have dc_18 := i_ne c_18
                refine wp_ck (i_nz (by omega)) ?_
                exact wp_so1 trivial
            ·
              have dc_16 := i_ne c_16
              have n_21 : (60 : Int32).toInt = 60 := by decide
              refine wp_if (fun c_20 => ?_) (fun c_20 => ?_)
              ·
                have dc_20 := i_eq c_20
                refine wp_if (fun c_22 => ?_) (fun c_22 => ?_)
                ·
                  have dc_22 := i_le c_22
                  exact wp_so1 trivial
                ·
                  have dc_22 := i_nle c_22
                  exact wp_so1 trivial
              ·
                have dc_20 := i_ne c_20
                have n_24 : (61 : Int32).toInt = 61 := by decide
                refine wp_if (fun c_23 => ?_) (fun c_23 => ?_)
                ·
                  have dc_23 := i_eq c_23
                  refine wp_if (fun c_25 => ?_) (fun c_25 => ?_)
                  ·
                    have dc_25 := i_eq c_25
                    exact wp_so1 trivial
                  ·
                    have dc_25 := i_ne c_25
                    exact wp_so1 trivial
                ·
                  have dc_23 := i_ne c_23
                  have n_27 : (62 : Int32).toInt = 62 := by decide
                  refine wp_if (fun c_26 => ?_) (fun c_26 => ?_)
                  ·
                    have dc_26 := i_eq c_26
                    refine wp_if (fun c_28 => ?_) (fun c_28 => ?_)
                    ·
                      have dc_28 := i_le c_28
                      exact wp_so1 trivial
                    ·
                      have dc_28 := i_nle c_28
                      exact wp_so1 trivial
                  ·
                    have dc_26 := i_ne c_26
                    have n_30 : (124 : Int32).toInt = 124 := by decide
                    refine wp_if (fun c_29 => ?_) (fun c_29 => ?_)
                    ·
                      have dc_29 := i_eq c_29
                      have n_32 : (0 : Int32).toInt = 0 := by decide
                      refine wp_if (fun c_31 => ?_) (fun c_31 => ?_)
                      ·
                        have dc_31 := i_eq c_31
                        refine wp_if (fun c_33 => ?_) (fun c_33 => ?_)
                        ·
                          have dc_33 := i_eq c_33
                          exact wp_so1 trivial
                        ·
                          have dc_33 := i_ne c_33
                          exact wp_so1 trivial
                      ·
                        have dc_31 := i_ne c_31
                        exact wp_so1 trivial
                    ·
                      have dc_29 := i_ne c_29
                      exact wp_so1 trivial

theorem uf_X2_push (N : Nat) (x1 : Int32) (v_stacked : Int32) (v_stack : List Int32) : fX2_push N x1 v_stacked v_stack = if (121 : Int32) ≤ v_stacked then
    (some (v_stacked, v_stack))
    else (mm_ck (mm_inb v_stacked v_stack.length) (mm_nm (mm_is v_stack v_stacked x1) (fun (l_3 : List Int32) =>
    mm_nm ((v_stacked + (1 : Int32))) (fun (y_4 : Int32) =>
    some (y_4, l_3))))) := rfl

set_option maxHeartbeats 4000000 in
set_option maxRecDepth 20000 in
theorem sf_X2_push {N : Nat} (hN : 700 ≤ N) {x1 : Int32} {v_stacked : Int32} {v_stack : List Int32} (h_0 : v_stack.length = 121) (h_1 : 0 ≤ v_stacked.toInt) (h_2 : v_stacked.toInt ≤ 121) : wp (fX2_push N x1 v_stacked v_stack) (cu2 (fun (wv_stacked : Int32) (wv_stack : List Int32) => wv_stack.length = 121 ∧ 0 ≤ wv_stacked.toInt ∧ wv_stacked.toInt ≤ 121)) := by
  refine wp_of (uf_X2_push _ _ _ _) ?_
  have n_2 : (121 : Int32).toInt = 121 := by decide
  refine wp_if (fun c_1 => ?_) (fun c_1 => ?_)
  ·
    have dc_1 := i_le c_1
    exact wp_so2 ⟨h_0, h_1, h_2⟩
  ·
    have dc_1 := i_nle c_1
    refine wp_ck (i_inb (by omega) (by omega)) ?_
    refine wp_nm (fun l_3 h_l_3 => ?_)
    have nl_l_3 : l_3.length = 121 := by rw [h_l_3, is_len]; assumption
    have n_3 : (1 : Int32).toInt = 1 := by decide
    refine wp_nm (fun y_4 h_y_4 => ?_)
    have e_4 := i_addE h_y_4.symm (by omega) (by omega)
    exact wp_so2 ⟨nl_l_3, (by omega), (by omega)⟩

theorem uf_X2_pop (N : Nat) (v_stacked : Int32) (v_stack : List Int32) : fX2_pop N v_stacked v_stack = if v_stacked = 0 then
    (some ((0 : Int32), v_stacked))
    else (mm_nm ((v_stacked - (1 : Int32))) (fun (y_2 : Int32) =>
    mm_ck (mm_inb y_2 v_stack.length) (some ((mm_ig v_stack y_2), y_2)))) := rfl

set_option maxHeartbeats 4000000 in
set_option maxRecDepth 20000 in
theorem sf_X2_pop {N : Nat} (hN : 700 ≤ N) {v_stacked : Int32} {v_stack : List Int32} (h_0 : v_stack.length = 121) (h_1 : 0 ≤ v_stacked.toInt) (h_2 : v_stacked.toInt ≤ 121) : wp (fX2_pop N v_stacked v_stack) (cu2 (fun (r : Int32) (wv_stacked : Int32) => 0 ≤ wv_stacked.toInt ∧ wv_stacked.toInt ≤ 121)) := by
  refine wp_of (uf_X2_pop _ _ _) ?_
  have n_2 : (0 : Int32).toInt = 0 := by decide
  refine wp_if (fun c_1 => ?_) (fun c_1 => ?_)
  ·
    have dc_1 := i_eq c_1
    exact wp_so2 ⟨h_1, h_2⟩
  ·
    have dc_1 := i_ne c_1
    have n_3 : (1 : Int32).toInt = 1 := by decide
    refine wp_nm (fun y_2 h_y_2 => ?_)
    have e_4 := i_subE h_y_2.symm (by omega) (by omega)
    refine wp_ck (i_inb (by omega) (by omega)) ?_
    exact wp_so2 ⟨(by omega), (by omega)⟩

theorem uf_X2_worth_173 (N : Nat) (k_24 : Int32 → Int32 → Int32 → Int32 → Int32 → Int32 → Int32 → Int32 → Int32 → Int32 → List Int32 → List Int32 → Option (Int32 × Int32 × List Int32)) (x1 : Int32) (x2 : Int32) (x3 : Int32) (x4 : Int32) (x5 : Int32) (x6 : Int32) (x8 : Int32) (s0 : Int32) (v_stepCount : Int32) (v_stacked : Int32) (v_steps : List Int32) (v_stack : List Int32) : fX2_worth_173 N k_24 x1 x2 x3 x4 x5 x6 x8 s0 v_stepCount v_stacked v_steps v_stack = fX2_worth_317 N k_24 x1 x2 x3 x4 x5 x6 s0 x8 v_stepCount v_stacked v_steps v_stack := rfl

theorem uf_X2_worth_24 (N : Nat) (n : Nat) (x1 : Int32) (x2 : Int32) (x3 : Int32) (x4 : Int32) (x5 : Int32) (x6 : Int32) (x7 : Int32) (x8 : Int32) (v_stepCount : Int32) (v_stacked : Int32) (v_steps : List Int32) (v_stack : List Int32) : fX2_worth_24 N (n + 1) x1 x2 x3 x4 x5 x6 x7 x8 v_stepCount v_stacked v_steps v_stack = 
    if v_stepCount ≤ x8 then
    (some ((0 : Int32), v_stacked, v_stack))
    else (mm_ck (mm_inb x8 v_steps.length) (mm_nm ((mm_ig v_steps x8)) (fun (y_4 : Int32) =>
    if y_4 = (33 : Int32) then
    (mm_bd2 (fX2_pop N v_stacked v_stack) (fun (r_6 : Int32) (w_7 : Int32) =>
    if r_6 = 0 then
    (fX2_worth_242 N (fX2_worth_24 N n) x1 x2 x3 x4 x5 x6 x7 x8 (1 : Int32) v_stepCount w_7 v_steps v_stack)
    else (fX2_worth_242 N (fX2_worth_24 N n) x1 x2 x3 x4 x5 x6 x7 x8 (0 : Int32) v_stepCount w_7 v_steps v_stack)))
    else (if y_4 = (59 : Int32) then
    (mm_bd2 (fX2_pop N v_stacked v_stack) (fun (r_11 : Int32) (w_12 : Int32) =>
    if x7 = 0 then
    (fX2_worth_317 N (fX2_worth_24 N n) x1 x2 x3 x4 x5 x6 (1 : Int32) x8 v_stepCount w_12 v_steps v_stack)
    else (some ((mm_max (0 : Int32) (mm_min (9 : Int32) r_11)), w_12, v_stack))))
    else (if y_4 = (63 : Int32) then
    (mm_bd2 (fX2_pop N v_stacked v_stack) (fun (r_16 : Int32) (w_17 : Int32) =>
    if r_16 = 0 then
    (fX2_worth_173 N (fX2_worth_24 N n) x1 x2 x3 x4 x5 x6 x8 (0 : Int32) v_stepCount w_17 v_steps v_stack)
    else (fX2_worth_173 N (fX2_worth_24 N n) x1 x2 x3 x4 x5 x6 x8 (1 : Int32) v_stepCount w_17 v_steps v_stack)))
    else (if y_4 = (98 : Int32) then
    (mm_bd2 (fX2_push N x6 v_stacked v_stack) (fun (w_21 : Int32) (w_22 : List Int32) =>
    fX2_worth_317 N (fX2_worth_24 N n) x1 x2 x3 x4 x5 x6 x7 x8 v_stepCount w_21 v_steps w_22))
    else (if y_4 = (102 : Int32) then
    (mm_bd2 (fX2_push N x5 v_stacked v_stack) (fun (w_25 : Int32) (w_26 : List Int32) =>
    fX2_worth_317 N (fX2_worth_24 N n) x1 x2 x3 x4 x5 x6 x7 x8 v_stepCount w_25 v_steps w_26))
    else (if y_4 = (107 : Int32) then
    (mm_bd2 (fX2_push N x4 v_stacked v_stack) (fun (w_29 : Int32) (w_30 : List Int32) =>
    fX2_worth_317 N (fX2_worth_24 N n) x1 x2 x3 x4 x5 x6 x7 x8 v_stepCount w_29 v_steps w_30))
    else (if y_4 = (110 : Int32) then
    (mm_bd2 (fX2_push N x1 v_stacked v_stack) (fun (w_33 : Int32) (w_34 : List Int32) =>
    fX2_worth_317 N (fX2_worth_24 N n) x1 x2 x3 x4 x5 x6 x7 x8 v_stepCount w_33 v_steps w_34))
    else (if y_4 = (114 : Int32) then
    (mm_bd2 (fX2_push N x3 v_stacked v_stack) (fun (w_37 : Int32) (w_38 : List Int32) =>
    fX2_worth_317 N (fX2_worth_24 N n) x1 x2 x3 x4 x5 x6 x7 x8 v_stepCount w_37 v_steps w_38))
    else (if y_4 = (119 : Int32) then
    (mm_bd2 (fX2_push N x2 v_stacked v_stack) (fun (w_41 : Int32) (w_42 : List Int32) =>
    fX2_worth_317 N (fX2_worth_24 N n) x1 x2 x3 x4 x5 x6 x7 x8 v_stepCount w_41 v_steps w_42))
    else (if y_4 = (126 : Int32) then
    (mm_bd2 (fX2_pop N v_stacked v_stack) (fun (r_45 : Int32) (w_46 : Int32) =>
    mm_bd2 (fX2_push N (-r_45) w_46 v_stack) (fun (w_48 : Int32) (w_49 : List Int32) =>
    fX2_worth_317 N (fX2_worth_24 N n) x1 x2 x3 x4 x5 x6 x7 x8 v_stepCount w_48 v_steps w_49)))
    else (mm_ck (mm_inb x8 v_steps.length) (if (mm_ig v_steps x8) < (1000 : Int32) then
    (mm_bd2 (fX2_pop N v_stacked v_stack) (fun (r_53 : Int32) (w_54 : Int32) =>
    mm_ck (mm_inb x8 v_steps.length) (mm_bd2 (fX2_pop N w_54 v_stack) (fun (r_57 : Int32) (w_58 : Int32) =>
    mm_bd1 (fX2_joined N (mm_ig v_steps x8) r_57 r_53) (fun (r_60 : Int32) =>
    mm_bd2 (fX2_push N r_60 w_58 v_stack) (fun (w_62 : Int32) (w_63 : List Int32) =>
    fX2_worth_317 N (fX2_worth_24 N n) x1 x2 x3 x4 x5 x6 x7 x8 v_stepCount w_62 v_steps w_63))))))
    else (mm_ck (mm_inb x8 v_steps.length) (mm_bd2 (fX2_push N ((mm_ig v_steps x8) - (1000 : Int32)) v_stacked v_stack) (fun (w_66 : Int32) (w_67 : List Int32) =>
    fX2_worth_317 N (fX2_worth_24 N n) x1 x2 x3 x4 x5 x6 x7 x8 v_stepCount w_66 v_steps w_67))))))))))))))))) := rfl

theorem uf_X2_worth_242 (N : Nat) (k_24 : Int32 → Int32 → Int32 → Int32 → Int32 → Int32 → Int32 → Int32 → Int32 → Int32 → List Int32 → List Int32 → Option (Int32 × Int32 × List Int32)) (x1 : Int32) (x2 : Int32) (x3 : Int32) (x4 : Int32) (x5 : Int32) (x6 : Int32) (x7 : Int32) (x8 : Int32) (s0 : Int32) (v_stepCount : Int32) (v_stacked : Int32) (v_steps : List Int32) (v_stack : List Int32) : fX2_worth_242 N k_24 x1 x2 x3 x4 x5 x6 x7 x8 s0 v_stepCount v_stacked v_steps v_stack = mm_bd2 (fX2_push N s0 v_stacked v_stack) (fun (w_70 : Int32) (w_71 : List Int32) =>
    fX2_worth_317 N k_24 x1 x2 x3 x4 x5 x6 x7 x8 v_stepCount w_70 v_steps w_71) := rfl

theorem uf_X2_worth_317 (N : Nat) (k_24 : Int32 → Int32 → Int32 → Int32 → Int32 → Int32 → Int32 → Int32 → Int32 → Int32 → List Int32 → List Int32 → Option (Int32 × Int32 × List Int32)) (x1 : Int32) (x2 : Int32) (x3 : Int32) (x4 : Int32) (x5 : Int32) (x6 : Int32) (x7 : Int32) (x8 : Int32) (v_stepCount : Int32) (v_stacked : Int32) (v_steps : List Int32) (v_stack : List Int32) : fX2_worth_317 N k_24 x1 x2 x3 x4 x5 x6 x7 x8 v_stepCount v_stacked v_steps v_stack = mm_nm (x8 + (1 : Int32)) (fun (y_69 : Int32) =>
    k_24 x1 x2 x3 x4 x5 x6 x7 y_69 v_stepCount v_stacked v_steps v_stack) := rfl

set_option maxHeartbeats 4000000 in
set_option maxRecDepth 20000 in
theorem sf_X2_worth_24 {N : Nat} (hN : 700 ≤ N)  : ∀ (n : Nat) (x1 : Int32) (x2 : Int32) (x3 : Int32) (x4 : Int32) (x5 : Int32) (x6 : Int32) (x7 : Int32) (x8 : Int32) (v_stepCount : Int32) (v_stacked : Int32) (v_steps : List Int32) (v_stack : List Int32), 0 ≤ v_stepCount.toInt → v_stepCount.toInt ≤ 121 → v_steps.length = 121 → v_stack.length = 121 → 0 ≤ v_stacked.toInt → v_stacked.toInt ≤ 121 → 0 ≤ x8.toInt → x8.toInt ≤ v_stepCount.toInt → (v_stepCount.toInt - x8.toInt).toNat < n → wp (fX2_worth_24 N n x1 x2 x3 x4 x5 x6 x7 x8 v_stepCount v_stacked v_steps v_stack) (cu3 (fun (r : Int32) (wv_stacked : Int32) (wv_stack : List Int32) => wv_stack.length = 121)) := by
  intro n
  induction n with
  | zero =>
    intro x1 x2 x3 x4 x5 x6 x7 x8 v_stepCount v_stacked v_steps v_stack h_0 h_1 h_2 h_3 h_4 h_5 h_6 h_7 hm
    exact absurd hm (by omega)
  | succ n ih =>
    intro x1 x2 x3 x4 x5 x6 x7 x8 v_stepCount v_stacked v_steps v_stack h_0 h_1 h_2 h_3 h_4 h_5 h_6 h_7 hm
    refine wp_of (uf_X2_worth_24 _ _ _ _ _ _ _ _ _ _ _ _ _ _) ?_
    refine wp_if (fun c_1 => ?_) (fun c_1 => ?_)
    ·
      have dc_1 := i_le c_1
      exact wp_so3 h_3
    ·
      have dc_1 := i_nle c_1
      refine wp_ck (i_inb (by omega) (by omega)) ?_
      refine wp_nm (fun y_4 h_y_4 => ?_)
      have t_y_4 : y_4.toInt = ((mm_ig v_steps x8)).toInt := by rw [h_y_4]
      have n_3 : (33 : Int32).toInt = 33 := by decide
      refine wp_if (fun c_2 => ?_) (fun c_2 => ?_)
      ·
        have dc_2 := i_eq c_2
        refine wp_bd2 (sf_X2_pop hN h_3 h_4 h_5) (fun r_6 w_7 ⟨q_4, q_5⟩ => ?_)
        have n_7 : (0 : Int32).toInt = 0 := by decide
        refine wp_if (fun c_6 => ?_) (fun c_6 => ?_)
        ·
          have dc_6 := i_eq c_6
          refine wp_of (uf_X2_worth_242 _ _ _ _ _ _ _ _ _ _ _ _ _ _ _) ?_
          refine wp_bd2 (sf_X2_push hN h_3 q_4 q_5) (fun w_70 w_71 ⟨q_8, q_9, q_10⟩ => ?_)
          refine wp_of (uf_X2_worth_317 _ _ _ _ _ _ _ _ _ _ _ _ _ _) ?_
          have n_11 : (1 : Int32).toInt = 1 := by decide
          refine wp_nm (fun y_69 h_y_69 => ?_)
          have e_12 := i_addE h_y_69.symm (by omega) (by omega)
          exact ih _ _ _ _ _ _ _ _ _ _ _ _ h_0 h_1 h_2 q_8 q_9 q_10 (by omega) (by omega) (by omega)
        ·
          have dc_6 := i_ne c_6
          refine wp_of (uf_X2_worth_242 _ _ _ _ _ _ _ _ _ _ _ _ _ _ _) ?_
          refine wp_bd2 (sf_X2_push hN h_3 q_4 q_5) (fun w_70__13 w_71__14 ⟨q_15, q_16, q_17⟩ => ?_)
          refine wp_of (uf_X2_worth_317 _ _ _ _ _ _ _ _ _ _ _ _ _ _) ?_
          have n_19 : (1 : Int32).toInt = 1 := by decide
          refine wp_nm (fun y_69__18 h_y_69__18 => ?_)
          have e_20 := i_addE h_y_69__18.symm (by omega) (by omega)
          exact ih _ _ _ _ _ _ _ _ _ _ _ _ h_0 h_1 h_2 q_15 q_16 q_17 (by omega) (by omega) (by omega)
      ·
        have dc_2 := i_ne c_2
        have n_22 : (59 : Int32).toInt = 59 := by decide
        refine wp_if (fun c_21 => ?_) (fun c_21 => ?_)
        ·
          have dc_21 := i_eq c_21
          refine wp_bd2 (sf_X2_pop hN h_3 h_4 h_5) (fun r_11 w_12 ⟨q_23, q_24⟩ => ?_)
          have n_26 : (0 : Int32).toInt = 0 := by decide
          refine wp_if (fun c_25 => ?_) (fun c_25 => ?_)
          ·
            have dc_25 := i_eq c_25
            refine wp_of (uf_X2_worth_317 _ _ _ _ _ _ _ _ _ _ _ _ _ _) ?_
            have n_28 : (1 : Int32).toInt = 1 := by decide
            refine wp_nm (fun y_69__27 h_y_69__27 => ?_)
            have e_29 := i_addE h_y_69__27.symm (by omega) (by omega)
            exact ih _ _ _ _ _ _ _ _ _ _ _ _ h_0 h_1 h_2 h_3 q_23 q_24 (by omega) (by omega) (by omega)
          ·
            have dc_25 := i_ne c_25
            exact wp_so3 h_3
        ·
          have dc_21 := i_ne c_21
          have n_31 : (63 : Int32).toInt = 63 := by decide
          refine wp_if (fun c_30 => ?_) (fun c_30 => ?_)
          ·
            have dc_30 := i_eq c_30
            refine wp_bd2 (sf_X2_pop hN h_3 h_4 h_5) (fun r_16 w_17 ⟨q_32, q_33⟩ => ?_)
            have n_35 : (0 : Int32).toInt = 0 := by decide
            refine wp_if (fun c_34 => ?_) (fun c_34 => ?_)
            ·
              have dc_34 := i_eq c_34
              refine wp_of (uf_X2_worth_173 _ _ _ _ _ _ _ _ _ _ _ _ _ _) ?_
              refine wp_of (uf_X2_worth_317 _ _ _ _ _ _ _ _ _ _ _ _ _ _) ?_
              have n_37 : (1 : Int32).toInt = 1 := by decide
              refine wp_nm (fun y_69__36 h_y_69__36 => ?_)
              have e_38 := i_addE h_y_69__36.symm (by omega) (by omega)
              exact ih _ _ _ _ _ _ _ _ _ _ _ _ h_0 h_1 h_2 h_3 q_32 q_33 (by omega) (by omega) (by omega)
            ·
              have dc_34 := i_ne c_34
              refine wp_of (uf_X2_worth_173 _ _ _ _ _ _ _ _ _ _ _ _ _ _) ?_
              refine wp_of (uf_X2_worth_317 _ _ _ _ _ _ _ _ _ _ _ _ _ _) ?_
              have n_40 : (1 : Int32).toInt = 1 := by decide
              refine wp_nm (fun y_69__39 h_y_69__39 => ?_)
              have e_41 := i_addE h_y_69__39.symm (by omega) (by omega)
              exact ih _ _ _ _ _ _ _ _ _ _ _ _ h_0 h_1 h_2 h_3 q_32 q_33 (by omega) (by omega) (by omega)
          ·
            have dc_30 := i_ne c_30
            have n_43 : (98 : Int32).toInt = 98 := by decide
            refine wp_if (fun c_42 => ?_) (fun c_42 => ?_)
            ·
              have dc_42 := i_eq c_42
              refine wp_bd2 (sf_X2_push hN h_3 h_4 h_5) (fun w_21 w_22 ⟨q_44, q_45, q_46⟩ => ?_)
              refine wp_of (uf_X2_worth_317 _ _ _ _ _ _ _ _ _ _ _ _ _ _) ?_
              have n_48 : (1 : Int32).toInt = 1 := by decide
              refine wp_nm (fun y_69__47 h_y_69__47 => ?_)
              have e_49 := i_addE h_y_69__47.symm (by omega) (by omega)
              exact ih _ _ _ _ _ _ _ _ _ _ _ _ h_0 h_1 h_2 q_44 q_45 q_46 (by omega) (by omega) (by omega)
            ·
              have dc_42 := i_ne c_42
              have n_51 : (102 : Int32).toInt = 102 := by decide
              refine wp_if (fun c_50 => ?_) (fun c_50 => ?_)
              ·
                have dc_50 := i_eq c_50
                refine wp_bd2 (sf_X2_push hN h_3 h_4 h_5) (fun w_25 w_26 ⟨q_52, q_53, q_54⟩ => ?_)
                refine wp_of (uf_X2_worth_317 _ _ _ _ _ _ _ _ _ _ _ _ _ _) ?_
                have n_56 : (1 : Int32).toInt = 1 := by decide
                refine wp_nm (fun y_69__55 h_y_69__55 => ?_)
                have e_57 := i_addE h_y_69__55.symm (by omega) (by omega)
                exact ih _ _ _ _ _ _ _ _ _ _ _ _ h_0 h_1 h_2 q_52 q_53 q_54 (by omega) (by omega) (by omega)
              ·
                have dc_50 := i_ne c_50
                have n_59 : (107 : Int32).toInt = 107 := by decide
                refine wp_if (fun c_58 => ?_) (fun c_58 => ?_)
                ·
                  have dc_58 := i_eq c_58
                  refine wp_bd2 (sf_X2_push hN h_3 h_4 h_5) (fun w_29 w_30 ⟨q_60, q_61, q_62⟩ => ?_)
                  refine wp_of (uf_X2_worth_317 _ _ _ _ _ _ _ _ _ _ _ _ _ _) ?_
                  have n_64 : (1 : Int32).toInt = 1 := by decide
                  refine wp_nm (fun y_69__63 h_y_69__63 => ?_)
                  have e_65 := i_addE h_y_69__63.symm (by omega) (by omega)
                  exact ih _ _ _ _ _ _ _ _ _ _ _ _ h_0 h_1 h_2 q_60 q_61 q_62 (by omega) (by omega) (by omega)
                ·
                  have dc_58 := i_ne c_58
                  have n_67 : (110 : Int32).toInt = 110 := by decide
                  refine wp_if (fun c_66 => ?_) (fun c_66 => ?_)
                  ·
                    have dc_66 := i_eq c_66
                    refine wp_bd2 (sf_X2_push hN h_3 h_4 h_5) (fun w_33 w_34 ⟨q_68, q_69, q_70⟩ => ?_)
                    refine wp_of (uf_X2_worth_317 _ _ _ _ _ _ _ _ _ _ _ _ _ _) ?_
                    have n_72 : (1 : Int32).toInt = 1 := by decide
                    refine wp_nm (fun y_69__71 h_y_69__71 => ?_)
                    have e_73 := i_addE h_y_69__71.symm (by omega) (by omega)
                    exact ih _ _ _ _ _ _ _ _ _ _ _ _ h_0 h_1 h_2 q_68 q_69 q_70 (by omega) (by omega) (by omega)
                  ·
                    have dc_66 := i_ne c_66
                    have n_75 : (114 : Int32).toInt = 114 := by decide
                    refine wp_if (fun c_74 => ?_) (fun c_74 => ?_)
                    ·
                      have dc_74 := i_eq c_74
                      refine wp_bd2 (sf_X2_push hN h_3 h_4 h_5) (fun w_37 w_38 ⟨q_76, q_77, q_78⟩ => ?_)
                      refine wp_of (uf_X2_worth_317 _ _ _ _ _ _ _ _ _ _ _ _ _ _) ?_
                      have n_80 : (1 : Int32).toInt = 1 := by decide
                      refine wp_nm (fun y_69__79 h_y_69__79 => ?_)
                      have e_81 := i_addE h_y_69__79.symm (by omega) (by omega)
                      exact ih _ _ _ _ _ _ _ _ _ _ _ _ h_0 h_1 h_2 q_76 q_77 q_78 (by omega) (by omega) (by omega)
                    ·
                      have dc_74 := i_ne c_74
                      have n_83 : (119 : Int32).toInt = 119 := by decide
                      refine wp_if (fun c_82 => ?_) (fun c_82 => ?_)
                      ·
                        have dc_82 := i_eq c_82
                        refine wp_bd2 (sf_X2_push hN h_3 h_4 h_5) (fun w_41 w_42 ⟨q_84, q_85, q_86⟩ => ?_)
                        refine wp_of (uf_X2_worth_317 _ _ _ _ _ _ _ _ _ _ _ _ _ _) ?_
                        have n_88 : (1 : Int32).toInt = 1 := by decide
                        refine wp_nm (fun y_69__87 h_y_69__87 => ?_)
                        have e_89 := i_addE h_y_69__87.symm (by omega) (by omega)
                        exact ih _ _ _ _ _ _ _ _ _ _ _ _ h_0 h_1 h_2 q_84 q_85 q_86 (by omega) (by omega) (by omega)
                      ·
                        have dc_82 := i_ne c_82
                        have n_91 : (126 : Int32).toInt = 126 := by decide
                        refine wp_if (fun c_90 => ?_) (fun c_90 => ?_)
                        ·
                          have dc_90 := i_eq c_90
                          refine wp_bd2 (sf_X2_pop hN h_3 h_4 h_5) (fun r_45 w_46 ⟨q_92, q_93⟩ => ?_)
                          refine wp_bd2 (sf_X2_push hN h_3 q_92 q_93) (fun w_48 w_49 ⟨q_94, q_95, q_96⟩ => ?_)
                          refine wp_of (uf_X2_worth_317 _ _ _ _ _ _ _ _ _ _ _ _ _ _) ?_
                          have n_98 : (1 : Int32).toInt = 1 := by decide
                          refine wp_nm (fun y_69__97 h_y_69__97 => ?_)
                          have e_99 := i_addE h_y_69__97.symm (by omega) (by omega)
                          exact ih _ _ _ _ _ _ _ _ _ _ _ _ h_0 h_1 h_2 q_94 q_95 q_96 (by omega) (by omega) (by omega)
                        ·
                          have dc_90 := i_ne c_90
                          refine wp_ck (i_inb (by omega) (by omega)) ?_
                          have n_101 : (1000 : Int32).toInt = 1000 := by decide
                          refine wp_if (fun c_100 => ?_) (fun c_100 => ?_)
                          ·
                            have dc_100 := i_lt c_100
                            refine wp_bd2 (sf_X2_pop hN h_3 h_4 h_5) (fun r_53 w_54 ⟨q_102, q_103⟩ => ?_)
                            refine wp_ck (i_inb (by omega) (by omega)) ?_
                            refine wp_bd2 (sf_X2_pop hN h_3 q_102 q_103) (fun r_57 w_58 ⟨q_104, q_105⟩ => ?_)
                            refine wp_bd1 (sf_X2_joined hN ) (fun r_60 _ => ?_)
                            refine wp_bd2 (sf_X2_push hN h_3 q_104 q_105) (fun w_62 w_63 ⟨q_106, q_107, q_108⟩ => ?_)
                            refine wp_of (uf_X2_worth_317 _ _ _ _ _ _ _ _ _ _ _ _ _ _) ?_
                            have n_110 : (1 : Int32).toInt = 1 := by decide
                            refine wp_nm (fun y_69__109 h_y_69__109 => ?_)
                            have e_111 := i_addE h_y_69__109.symm (by omega) (by omega)
                            exact ih _ _ _ _ _ _ _ _ _ _ _ _ h_0 h_1 h_2 q_106 q_107 q_108 (by omega) (by omega) (by omega)
                          ·
                            have dc_100 := i_nlt c_100
                            refine wp_ck (i_inb (by omega) (by omega)) ?_
                            refine wp_bd2 (sf_X2_push hN h_3 h_4 h_5) (fun w_66 w_67 ⟨q_112, q_113, q_114⟩ => ?_)
                            refine wp_of (uf_X2_worth_317 _ _ _ _ _ _ _ _ _ _ _ _ _ _) ?_
                            have n_116 : (1 : Int32).toInt = 1 := by decide
                            refine wp_nm (fun y_69__115 h_y_69__115 => ?_)
                            have e_117 := i_addE h_y_69__115.symm (by omega) (by omega)
                            exact ih _ _ _ _ _ _ _ _ _ _ _ _ h_0 h_1 h_2 q_112 q_113 q_114 (by omega) (by omega) (by omega)

theorem uf_X2_worth (N : Nat) (x1 : Int32) (x2 : Int32) (x3 : Int32) (x4 : Int32) (x5 : Int32) (x6 : Int32) (v_stepCount : Int32) (v_stacked : Int32) (v_steps : List Int32) (v_stack : List Int32) : fX2_worth N x1 x2 x3 x4 x5 x6 v_stepCount v_stacked v_steps v_stack = if v_stepCount = 0 then
    (some (((1 : Int32) + ((2 : Int32) * x3)), v_stacked, v_stack))
    else (fX2_worth_24 N N x1 x2 x3 x4 x5 x6 (1 : Int32) (0 : Int32) v_stepCount (0 : Int32) v_steps v_stack) := rfl

set_option maxHeartbeats 4000000 in
set_option maxRecDepth 20000 in
theorem sf_X2_worth {N : Nat} (hN : 700 ≤ N) {x1 : Int32} {x2 : Int32} {x3 : Int32} {x4 : Int32} {x5 : Int32} {x6 : Int32} {v_stepCount : Int32} {v_stacked : Int32} {v_steps : List Int32} {v_stack : List Int32} (h_0 : 0 ≤ v_stepCount.toInt) (h_1 : v_stepCount.toInt ≤ 121) (h_2 : v_steps.length = 121) (h_3 : v_stack.length = 121) : wp (fX2_worth N x1 x2 x3 x4 x5 x6 v_stepCount v_stacked v_steps v_stack) (cu3 (fun (r : Int32) (wv_stacked : Int32) (wv_stack : List Int32) => wv_stack.length = 121)) := by
  refine wp_of (uf_X2_worth _ _ _ _ _ _ _ _ _ _ _) ?_
  have n_2 : (0 : Int32).toInt = 0 := by decide
  refine wp_if (fun c_1 => ?_) (fun c_1 => ?_)
  ·
    have dc_1 := i_eq c_1
    exact wp_so3 h_3
  ·
    have dc_1 := i_ne c_1
    exact sf_X2_worth_24 hN _ _ _ _ _ _ _ _ _ _ _ _ _ h_0 h_1 h_2 h_3 (by omega) (by omega) (by omega) (by omega) (by omega)
