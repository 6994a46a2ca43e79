/-! safe -/
theorem uf_X9_byteAt (N : Nat) (v_base : Int32) (v_at : Int32) (v_ends : Int32) (v_tape : List Int32) (v_text : List Int32) : fX9_byteAt N v_base v_at v_ends v_tape v_text = if v_ends ≤ v_at then
    (some ((0 : Int32)))
    else (if 0 ≤ v_base then
    (mm_ck (mm_inb (v_base + v_at) v_text.length) (some ((mm_ig v_text (v_base + v_at)))))
    else (mm_ck (mm_inb v_at v_tape.length) (some ((mm_ig v_tape v_at))))) := rfl

set_option maxHeartbeats 4000000 in
set_option maxRecDepth 20000 in
theorem sf_X9_byteAt {N : Nat} (hN : 700 ≤ N) {v_base : Int32} {v_at : Int32} {v_ends : Int32} {v_tape : List Int32} {v_text : List Int32} (h_0 : v_tape.length = 120) (h_1 : v_text.length = 120) (h_2 : -1 ≤ v_base.toInt) (h_3 : v_base.toInt ≤ 0) (h_4 : 0 ≤ v_ends.toInt) (h_5 : v_ends.toInt ≤ 120) (h_6 : 0 ≤ v_at.toInt) (h_7 : v_at.toInt ≤ v_ends.toInt) : wp (fX9_byteAt N v_base v_at v_ends v_tape v_text) (fun (r : Int32) => ((¬ r.toInt = 0 → v_at.toInt < v_ends.toInt))) := by
  refine wp_of (uf_X9_byteAt _ _ _ _ _ _) ?_
  refine wp_if (fun c_1 => ?_) (fun c_1 => ?_)
  ·
    have dc_1 := i_le c_1
    have n_2 : (0 : Int32).toInt = 0 := by decide
    exact wp_so1 (by omega)
  ·
    have dc_1 := i_nle c_1
    have n_4 : (0 : Int32).toInt = 0 := by decide
    refine wp_if (fun c_3 => ?_) (fun c_3 => ?_)
    ·
      have dc_3 := i_le c_3
      generalize hz_z : (v_base + v_at) = z
      have e_5 := i_addE hz_z (by omega) (by omega)
      refine wp_ck (i_inb (by omega) (by omega)) ?_
      exact wp_so1 (by omega)
    ·
      have dc_3 := i_nle c_3
      refine wp_ck (i_inb (by omega) (by omega)) ?_
      exact wp_so1 (by omega)

theorem uf_X9_wrong (N : Nat) (v_at : Int32) (v_fault : Int32) : fX9_wrong N v_at v_fault = if 0 ≤ v_fault then
    (fX9_wrong_19 N v_fault v_at v_fault)
    else (fX9_wrong_19 N v_at v_at v_fault) := rfl

theorem uf_X9_wrong_19 (N : Nat) (s0 : Int32) (v_at : Int32) (v_fault : Int32) : fX9_wrong_19 N s0 v_at v_fault = some ((0 : Int32), s0) := rfl

set_option maxHeartbeats 4000000 in
set_option maxRecDepth 20000 in
theorem sf_X9_wrong {N : Nat} (hN : 700 ≤ N) {v_at : Int32} {v_fault : Int32} (h_0 : 0 ≤ v_at.toInt) : wp (fX9_wrong N v_at v_fault) (cu2 (fun (r : Int32) (wv_fault : Int32) => 0 ≤ wv_fault.toInt)) := by
  refine wp_of (uf_X9_wrong _ _ _) ?_
  have n_2 : (0 : Int32).toInt = 0 := by decide
  refine wp_if (fun c_1 => ?_) (fun c_1 => ?_)
  ·
    have dc_1 := i_le c_1
    refine wp_of (uf_X9_wrong_19 _ _ _ _) ?_
    exact wp_so2 (by omega)
  ·
    have dc_1 := i_nle c_1
    refine wp_of (uf_X9_wrong_19 _ _ _ _) ?_
    exact wp_so2 h_0

theorem uf_X9_takes (N : Nat) (x1 : Int32) (v_base : Int32) (v_at : Int32) (v_ends : Int32) (v_fault : Int32) (v_tape : List Int32) (v_text : List Int32) : fX9_takes N x1 v_base v_at v_ends v_fault v_tape v_text = if 0 ≤ v_fault then
    (some (false, v_at))
    else (mm_bd1 (fX9_byteAt N v_base v_at v_ends v_tape v_text) (fun (r_2 : Int32) =>
    if r_2 = x1 then
    (mm_nm ((v_at + (1 : Int32))) (fun (y_5 : Int32) =>
    some (true, y_5)))
    else (some (false, v_at)))) := rfl

set_option maxHeartbeats 4000000 in
set_option maxRecDepth 20000 in
theorem sf_X9_takes {N : Nat} (hN : 700 ≤ N) {x1 : Int32} {v_base : Int32} {v_at : Int32} {v_ends : Int32} {v_fault : Int32} {v_tape : List Int32} {v_text : List Int32} (h_0 : v_tape.length = 120) (h_1 : v_text.length = 120) (h_2 : -1 ≤ v_base.toInt) (h_3 : v_base.toInt ≤ 0) (h_4 : 0 ≤ v_ends.toInt) (h_5 : v_ends.toInt ≤ 120) (h_6 : 0 ≤ v_at.toInt) (h_7 : v_at.toInt ≤ v_ends.toInt) (h_8 : 1 ≤ x1.toInt) : wp (fX9_takes N x1 v_base v_at v_ends v_fault v_tape v_text) (cu2 (fun (r : Bool) (wv_at : Int32) => ((r = true ∧ v_fault.toInt < 0 ∧ v_at.toInt < v_ends.toInt ∧ wv_at.toInt = v_at.toInt + 1) ∨ (r = false ∧ wv_at.toInt = v_at.toInt)))) := by
  refine wp_of (uf_X9_takes _ _ _ _ _ _ _ _) ?_
  have n_2 : (0 : Int32).toInt = 0 := by decide
  refine wp_if (fun c_1 => ?_) (fun c_1 => ?_)
  ·
    have dc_1 := i_le c_1
    exact wp_so2 (by first | exact Or.inl ⟨rfl, by first | trivial | omega⟩ | exact Or.inr ⟨rfl, by first | trivial | omega⟩)
  ·
    have dc_1 := i_nle c_1
    refine wp_bd1 (sf_X9_byteAt hN h_0 h_1 h_2 h_3 h_4 h_5 h_6 h_7) (fun r_2 q_3 => ?_)
    refine wp_if (fun c_4 => ?_) (fun c_4 => ?_)
    ·
      have dc_4 := i_eq c_4
      have n_5 : (1 : Int32).toInt = 1 := by decide
      refine wp_nm (fun y_5 h_y_5 => ?_)
      have e_6 := i_addE h_y_5.symm (by omega) (by omega)
      exact wp_so2 (by first | exact Or.inl ⟨rfl, by first | trivial | omega⟩ | exact Or.inr ⟨rfl, by first | trivial | omega⟩)
    ·
      have dc_4 := i_ne c_4
      exact wp_so2 (by first | exact Or.inl ⟨rfl, by first | trivial | omega⟩ | exact Or.inr ⟨rfl, by first | trivial | omega⟩)

theorem uf_X9_nameOf (N : Nat) (x0 : Int32) : fX9_nameOf N x0 = if x0 = (98 : Int32) then
    (some ((5 : Int32)))
    else (if x0 = (102 : Int32) then
    (some ((4 : Int32)))
    else (if x0 = (107 : Int32) then
    (some ((3 : Int32)))
    else (if x0 = (110 : Int32) then
    (some ((0 : Int32)))
    else (if x0 = (114 : Int32) then
    (some ((2 : Int32)))
    else (if x0 = (119 : Int32) then
    (some ((1 : Int32)))
    else (some ((-1 : Int32)))))))) := rfl

set_option maxHeartbeats 4000000 in
set_option maxRecDepth 20000 in
theorem sf_X9_nameOf {N : Nat} (hN : 700 ≤ N) {x0 : Int32}  : wp (fX9_nameOf N x0) (fun (r : Int32) => -1 ≤ r.toInt ∧ r.toInt ≤ 5 ∧ ((0 ≤ r.toInt → ¬ x0.toInt = 0))) := by
  refine wp_of (uf_X9_nameOf _ _) ?_
  have n_2 : (98 : Int32).toInt = 98 := by decide
  refine wp_if (fun c_1 => ?_) (fun c_1 => ?_)
  ·
    have dc_1 := i_eq c_1
    have n_3 : (5 : Int32).toInt = 5 := by decide
    exact wp_so1 ⟨(by omega), (by omega), (by omega)⟩
  ·
    have dc_1 := i_ne c_1
    have n_5 : (102 : Int32).toInt = 102 := by decide
    refine wp_if (fun c_4 => ?_) (fun c_4 => ?_)
    ·
      have dc_4 := i_eq c_4
      have n_6 : (4 : Int32).toInt = 4 := by decide
      exact wp_so1 ⟨(by omega), (by omega), (by omega)⟩
    ·
      have dc_4 := i_ne c_4
      have n_8 : (107 : Int32).toInt = 107 := by decide
      refine wp_if (fun c_7 => ?_) (fun c_7 => ?_)
      ·
        have dc_7 := i_eq c_7
        have n_9 : (3 : Int32).toInt = 3 := by decide
        exact wp_so1 ⟨(by omega), (by omega), (by omega)⟩
      ·
        have dc_7 := i_ne c_7
        have n_11 : (110 : Int32).toInt = 110 := by decide
        refine wp_if (fun c_10 => ?_) (fun c_10 => ?_)
        ·
          have dc_10 := i_eq c_10
          have n_12 : (0 : Int32).toInt = 0 := by decide
          exact wp_so1 ⟨(by omega), (by omega), (by omega)⟩
        ·
          have dc_10 := i_ne c_10
          have n_14 : (114 : Int32).toInt = 114 := by decide
          refine wp_if (fun c_13 => ?_) (fun c_13 => ?_)
          ·
            have dc_13 := i_eq c_13
            have n_15 : (2 : Int32).toInt = 2 := by decide
            exact wp_so1 ⟨(by omega), (by omega), (by omega)⟩
          ·
            have dc_13 := i_ne c_13
            have n_17 : (119 : Int32).toInt = 119 := by decide
            refine wp_if (fun c_16 => ?_) (fun c_16 => ?_)
            ·
              have dc_16 := i_eq c_16
              have n_18 : (1 : Int32).toInt = 1 := by decide
              exact wp_so1 ⟨(by omega), (by omega), (by omega)⟩
            ·
              have dc_16 := i_ne c_16
              have n_19 : (-1 : Int32).toInt = -1 := by decide
              exact wp_so1 ⟨(by omega), (by omega), (by omega)⟩

theorem uf_X9_product_10 (N : Nat) (go : Int32 → Int32 → Int32 → Int32 → Int32 → List Int32 → List Int32 → List Int32 → Option (Int32 × Int32 × Int32 × Int32)) (n : Nat) (x1 : Int32) (x2 : Int32) (v_base : Int32) (v_at : Int32) (v_ends : Int32) (v_fault : Int32) (v_opened : Int32) (v_tape : List Int32) (v_text : List Int32) (v_names : List Int32) : fX9_product_10 N go (n + 1) x1 x2 v_base v_at v_ends v_fault v_opened v_tape v_text v_names = 
    if 0 ≤ v_fault then
    (some (x1, v_at, v_fault, v_opened))
    else (if x2 = (42 : Int32) then
    (fX9_product_35 N go (fX9_product_10 N go n) x1 x2 v_base v_at v_ends v_fault v_opened v_tape v_text v_names)
    else (if x2 = (47 : Int32) then
    (fX9_product_35 N go (fX9_product_10 N go n) x1 x2 v_base v_at v_ends v_fault v_opened v_tape v_text v_names)
    else (if x2 = (37 : Int32) then
    (fX9_product_35 N go (fX9_product_10 N go n) x1 x2 v_base v_at v_ends v_fault v_opened v_tape v_text v_names)
    else (some (x1, v_at, v_fault, v_opened))))) := rfl

theorem uf_X9_product_35 (N : Nat) (go : Int32 → Int32 → Int32 → Int32 → Int32 → List Int32 → List Int32 → List Int32 → Option (Int32 × Int32 × Int32 × Int32)) (k_10 : Int32 → Int32 → Int32 → Int32 → Int32 → Int32 → Int32 → List Int32 → List Int32 → List Int32 → Option (Int32 × Int32 × Int32 × Int32)) (x1 : Int32) (x2 : Int32) (v_base : Int32) (v_at : Int32) (v_ends : Int32) (v_fault : Int32) (v_opened : Int32) (v_tape : List Int32) (v_text : List Int32) (v_names : List Int32) : fX9_product_35 N go k_10 x1 x2 v_base v_at v_ends v_fault v_opened v_tape v_text v_names = mm_nm ((v_at + (1 : Int32))) (fun (y_12 : Int32) =>
    mm_bd4 (go v_base y_12 v_ends v_fault v_opened v_tape v_text v_names) (fun (r_13 : Int32) (w_14 : Int32) (w_15 : Int32) (w_16 : Int32) =>
    if x2 = (42 : Int32) then
    (fX9_product_85 N go k_10 (x1 * r_13) v_base w_14 v_ends w_15 w_16 v_tape v_text v_names)
    else (if r_13 = 0 then
    (fX9_product_85 N go k_10 (0 : Int32) v_base w_14 v_ends w_15 w_16 v_tape v_text v_names)
    else (if x2 = (47 : Int32) then
    (mm_ck (mm_nz r_13) (fX9_product_85 N go k_10 (x1 / r_13) v_base w_14 v_ends w_15 w_16 v_tape v_text v_names))
    else (mm_ck (mm_nz r_13) (fX9_product_85 N go k_10 (mm_rem x1 r_13) v_base w_14 v_ends w_15 w_16 v_tape v_text v_names)))))) := rfl

theorem uf_X9_product_85 (N : Nat) (go : Int32 → Int32 → Int32 → Int32 → Int32 → List Int32 → List Int32 → List Int32 → Option (Int32 × Int32 × Int32 × Int32)) (k_10 : Int32 → Int32 → Int32 → Int32 → Int32 → Int32 → Int32 → List Int32 → List Int32 → List Int32 → Option (Int32 × Int32 × Int32 × Int32)) (s0 : Int32) (v_base : Int32) (v_at : Int32) (v_ends : Int32) (v_fault : Int32) (v_opened : Int32) (v_tape : List Int32) (v_text : List Int32) (v_names : List Int32) : fX9_product_85 N go k_10 s0 v_base v_at v_ends v_fault v_opened v_tape v_text v_names = mm_bd1 (fX9_byteAt N v_base v_at v_ends v_tape v_text) (fun (r_23 : Int32) =>
    k_10 s0 r_23 v_base v_at v_ends v_fault v_opened v_tape v_text v_names) := rfl

set_option maxHeartbeats 4000000 in
set_option maxRecDepth 20000 in
theorem sf_X9_product_10 {N : Nat} (hN : 700 ≤ N) {K : Int} {go : Int32 → Int32 → Int32 → Int32 → Int32 → List Int32 → List Int32 → List Int32 → Option (Int32 × Int32 × Int32 × Int32)} (hgo : ∀ (v_base : Int32) (v_at : Int32) (v_ends : Int32) (v_fault : Int32) (v_opened : Int32) (v_tape : List Int32) (v_text : List Int32) (v_names : List Int32), v_tape.length = 120 → v_text.length = 120 → v_names.length = 6 → -1 ≤ v_base.toInt → v_base.toInt ≤ 0 → 0 ≤ v_ends.toInt → v_ends.toInt ≤ 120 → 0 ≤ v_at.toInt → v_at.toInt ≤ v_ends.toInt → 0 ≤ v_opened.toInt → v_opened.toInt ≤ 6 → v_fault.toInt < 0 → K ≤ v_opened.toInt → wp (go v_base v_at v_ends v_fault v_opened v_tape v_text v_names) (cu4 (fun (r : Int32) (wv_at : Int32) (wv_fault : Int32) (wv_opened : Int32) => v_at.toInt ≤ wv_at.toInt ∧ wv_at.toInt ≤ v_ends.toInt ∧ v_opened.toInt ≤ wv_opened.toInt ∧ wv_opened.toInt ≤ 6 ∧ ((wv_fault.toInt < 0 → wv_opened.toInt = v_opened.toInt)) ∧ ((0 ≤ v_fault.toInt → 0 ≤ wv_fault.toInt))))) : ∀ (n : Nat) (x1 : Int32) (x2 : Int32) (v_base : Int32) (v_at : Int32) (v_ends : Int32) (v_fault : Int32) (v_opened : Int32) (v_tape : List Int32) (v_text : List Int32) (v_names : List Int32), v_tape.length = 120 → v_text.length = 120 → v_names.length = 6 → -1 ≤ v_base.toInt → v_base.toInt ≤ 0 → 0 ≤ v_ends.toInt → v_ends.toInt ≤ 120 → 0 ≤ v_at.toInt → v_at.toInt ≤ v_ends.toInt → 0 ≤ v_opened.toInt → v_opened.toInt ≤ 6 → (v_fault.toInt < 0 → K ≤ v_opened.toInt) → (¬ x2.toInt = 0 → v_at.toInt < v_ends.toInt) → (v_ends.toInt - v_at.toInt).toNat < n → wp (fX9_product_10 N go n x1 x2 v_base v_at v_ends v_fault v_opened v_tape v_text v_names) (cu4 (fun (r : Int32) (wv_at : Int32) (wv_fault : Int32) (wv_opened : Int32) => v_at.toInt ≤ wv_at.toInt ∧ wv_at.toInt ≤ v_ends.toInt ∧ v_opened.toInt ≤ wv_opened.toInt ∧ wv_opened.toInt ≤ 6 ∧ ((wv_fault.toInt < 0 → wv_opened.toInt = v_opened.toInt)) ∧ ((0 ≤ v_fault.toInt → 0 ≤ wv_fault.toInt)))) := by
  intro n
  induction n with
  | zero =>
    intro x1 x2 v_base v_at v_ends v_fault v_opened v_tape v_text v_names h_0 h_1 h_2 h_3 h_4 h_5 h_6 h_7 h_8 h_9 h_10 h_11 h_12 hm
    exact absurd hm (by omega)
  | succ n ih =>
    intro x1 x2 v_base v_at v_ends v_fault v_opened v_tape v_text v_names h_0 h_1 h_2 h_3 h_4 h_5 h_6 h_7 h_8 h_9 h_10 h_11 h_12 hm
    refine wp_of (uf_X9_product_10 _ _ _ _ _ _ _ _ _ _ _ _ _) ?_
    have n_2 : (0 : Int32).toInt = 0 := by decide
    refine wp_if (fun c_1 => ?_) (fun c_1 => ?_)
    ·
      have dc_1 := i_le c_1
      exact wp_so4 ⟨(by omega), h_8, (by omega), h_10, (by omega), (by omega)⟩
    ·
      have dc_1 := i_nle c_1
      have n_4 : (42 : Int32).toInt = 42 := by decide
      refine wp_if (fun c_3 => ?_) (fun c_3 => ?_)
      ·
        have dc_3 := i_eq c_3
        refine wp_of (uf_X9_product_35 _ _ _ _ _ _ _ _ _ _ _ _ _) ?_
        have n_5 : (1 : Int32).toInt = 1 := by decide
        refine wp_nm (fun y_12 h_y_12 => ?_)
        have e_6 := i_addE h_y_12.symm (by omega) (by omega)
        refine wp_bd4 (hgo _ _ _ _ _ _ _ _ h_0 h_1 h_2 h_3 h_4 h_5 h_6 (by omega) (by omega) h_9 h_10 (by omega) (by omega)) (fun r_13 w_14 w_15 w_16 ⟨q_7, q_8, q_9, q_10, q_11, q_12⟩ => ?_)
        refine wp_ifp c_3 ?_
        refine wp_of (uf_X9_product_85 _ _ _ _ _ _ _ _ _ _ _ _) ?_
        refine wp_bd1 (sf_X9_byteAt hN h_0 h_1 h_3 h_4 h_5 h_6 (by omega) q_8) (fun r_23 q_13 => ?_)
        refine wp_cu4 (ih _ _ _ _ _ _ _ _ _ _ h_0 h_1 h_2 h_3 h_4 h_5 h_6 (by omega) q_8 (by omega) q_10 (by omega) q_13 (by omega)) (fun z_r z_wv_at z_wv_fault z_wv_opened ⟨q_14, q_15, q_16, q_17, q_18, q_19⟩ => ?_)
        exact ⟨(by omega), (by omega), (by omega), (by omega), (by omega), (by omega)⟩
      ·
        have dc_3 := i_ne c_3
        have n_21 : (47 : Int32).toInt = 47 := by decide
        refine wp_if (fun c_20 => ?_) (fun c_20 => ?_)
        ·
          have dc_20 := i_eq c_20
          refine wp_of (uf_X9_product_35 _ _ _ _ _ _ _ _ _ _ _ _ _) ?_
          have n_23 : (1 : Int32).toInt = 1 := by decide
          refine wp_nm (fun y_12__22 h_y_12__22 => ?_)
          have e_24 := i_addE h_y_12__22.symm (by omega) (by omega)
          refine wp_bd4 (hgo _ _ _ _ _ _ _ _ h_0 h_1 h_2 h_3 h_4 h_5 h_6 (by omega) (by omega) h_9 h_10 (by omega) (by omega)) (fun r_13__25 w_14__26 w_15__27 w_16__28 ⟨q_29, q_30, q_31, q_32, q_33, q_34⟩ => ?_)
          refine wp_ifn c_3 ?_
          refine wp_if (fun c_35 => ?_) (fun c_35 => ?_)
          ·
            have dc_35 := i_eq c_35
            refine wp_of (uf_X9_product_85 _ _ _ _ _ _ _ _ _ _ _ _) ?_
            refine wp_bd1 (sf_X9_byteAt hN h_0 h_1 h_3 h_4 h_5 h_6 (by omega) q_30) (fun r_23__36 q_37 => ?_)
            refine wp_cu4 (ih _ _ _ _ _ _ _ _ _ _ h_0 h_1 h_2 h_3 h_4 h_5 h_6 (by omega) q_30 (by omega) q_32 (by omega) q_37 (by omega)) (fun z_r__38 z_wv_at__39 z_wv_fault__40 z_wv_opened__41 ⟨q_42, q_43, q_44, q_45, q_46, q_47⟩ => ?_)
            exact ⟨(by omega), (by omega), (by omega), (by omega), (by omega), (by omega)⟩
          ·
            have dc_35 := i_ne c_35
            refine wp_ifp c_20 ?_
            refine wp_ck (i_nz (by omega)) ?_
            refine wp_of (uf_X9_product_85 _ _ _ _ _ _ _ _ _ _ _ _) ?_
            refine wp_bd1 (sf_X9_byteAt hN h_0 h_1 h_3 h_4 h_5 h_6 (by omega) q_30) (fun r_23__48 q_49 => ?_)
            refine wp_cu4 (ih _ _ _ _ _ _ _ _ _ _ h_0 h_1 h_2 h_3 h_4 h_5 h_6 (by omega) q_30 (by omega) q_32 (by omega) q_49 (by omega)) (fun z_r__50 z_wv_at__51 z_wv_fault__52 z_wv_opened__53 ⟨q_54, q_55, q_56, q_57, q_58, q_59⟩ => ?_)
            exact ⟨(by omega), (by omega), (by omega), (by omega), (by omega), (by omega)⟩
        ·
          have dc_20 := i_ne c_20
          have n_61 : (37 : Int32).toInt = 37 := by decide
          refine wp_if (fun c_60 => ?_) (fun c_60 => ?_)
          ·
            have dc_60 := i_eq c_60
            refine wp_of (uf_X9_product_35 _ _ _ _ _ _ _ _ _ _ _ _ _) ?_
            have n_63 : (1 : Int32).toInt = 1 := by decide
            refine wp_nm (fun y_12__62 h_y_12__62 => ?_)
            have e_64 := i_addE h_y_12__62.symm (by omega) (by omega)
            refine wp_bd4 (hgo _ _ _ _ _ _ _ _ h_0 h_1 h_2 h_3 h_4 h_5 h_6 (by omega) (by omega) h_9 h_10 (by omega) (by omega)) (fun r_13__65 w_14__66 w_15__67 w_16__68 ⟨q_69, q_70, q_71, q_72, q_73, q_74⟩ => ?_)
            refine wp_ifn c_3 ?_
            refine wp_if (fun c_75 => ?_) (fun c_75 => ?_)
            ·
              have dc_75 := i_eq c_75
              refine wp_of (uf_X9_product_85 _ _ _ _ _ _ _ _ _ _ _ _) ?_
              refine wp_bd1 (sf_X9_byteAt hN h_0 h_1 h_3 h_4 h_5 h_6 (by omega) q_70) (fun r_23__76 q_77 => ?_)
              refine wp_cu4 (ih _ _ _ _ _ _ _ _ _ _ h_0 h_1 h_2 h_3 h_4 h_5 h_6 (by omega) q_70 (by omega) q_72 (by omega) q_77 (by omega)) (fun z_r__78 z_wv_at__79 z_wv_fault__80 z_wv_opened__81 ⟨q_82, q_83, q_84, q_85, q_86, q_87⟩ => ?_)
              exact ⟨(by omega), (by omega), (by omega), (by omega), (by omega), (by omega)⟩
            ·
              have dc_75 := i_ne c_75
              refine wp_ifn c_20 ?_
              refine wp_ck (i_nz (by omega)) ?_
              refine wp_of (uf_X9_product_85 _ _ _ _ _ _ _ _ _ _ _ _) ?_
              refine wp_bd1 (sf_X9_byteAt hN h_0 h_1 h_3 h_4 h_5 h_6 (by omega) q_70) (fun r_23__88 q_89 => ?_)
              refine wp_cu4 (ih _ _ _ _ _ _ _ _ _ _ h_0 h_1 h_2 h_3 h_4 h_5 h_6 (by omega) q_70 (by omega) q_72 (by omega) q_89 (by omega)) (fun z_r__90 z_wv_at__91 z_wv_fault__92 z_wv_opened__93 ⟨q_94, q_95, q_96, q_97, q_98, q_99⟩ => ?_)
              exact ⟨(by omega), (by omega), (by omega), (by omega), (by omega), (by omega)⟩
          ·
            have dc_60 := i_ne c_60
            exact wp_so4 ⟨(by omega), h_8, (by omega), h_10, (by omega), (by omega)⟩

theorem uf_X9_product (N : Nat) (go : Int32 → Int32 → Int32 → Int32 → Int32 → List Int32 → List Int32 → List Int32 → Option (Int32 × Int32 × Int32 × Int32)) (v_base : Int32) (v_at : Int32) (v_ends : Int32) (v_fault : Int32) (v_opened : Int32) (v_tape : List Int32) (v_text : List Int32) (v_names : List Int32) : fX9_product N go v_base v_at v_ends v_fault v_opened v_tape v_text v_names = mm_bd4 (go v_base v_at v_ends v_fault v_opened v_tape v_text v_names) (fun (r_1 : Int32) (w_2 : Int32) (w_3 : Int32) (w_4 : Int32) =>
    mm_bd1 (fX9_byteAt N v_base w_2 v_ends v_tape v_text) (fun (r_6 : Int32) =>
    fX9_product_10 N go N r_1 r_6 v_base w_2 v_ends w_3 w_4 v_tape v_text v_names)) := rfl

set_option maxHeartbeats 4000000 in
set_option maxRecDepth 20000 in
theorem sf_X9_product {N : Nat} (hN : 700 ≤ N) {K : Int} {go : Int32 → Int32 → Int32 → Int32 → Int32 → List Int32 → List Int32 → List Int32 → Option (Int32 × Int32 × Int32 × Int32)} {v_base : Int32} {v_at : Int32} {v_ends : Int32} {v_fault : Int32} {v_opened : Int32} {v_tape : List Int32} {v_text : List Int32} {v_names : List Int32} (h_0 : v_tape.length = 120) (h_1 : v_text.length = 120) (h_2 : v_names.length = 6) (h_3 : -1 ≤ v_base.toInt) (h_4 : v_base.toInt ≤ 0) (h_5 : 0 ≤ v_ends.toInt) (h_6 : v_ends.toInt ≤ 120) (h_7 : 0 ≤ v_at.toInt) (h_8 : v_at.toInt ≤ v_ends.toInt) (h_9 : 0 ≤ v_opened.toInt) (h_10 : v_opened.toInt ≤ 6) (h_11 : v_fault.toInt < 0) (h_12 : K ≤ v_opened.toInt) (hgo : ∀ (v_base : Int32) (v_at : Int32) (v_ends : Int32) (v_fault : Int32) (v_opened : Int32) (v_tape : List Int32) (v_text : List Int32) (v_names : List Int32), v_tape.length = 120 → v_text.length = 120 → v_names.length = 6 → -1 ≤ v_base.toInt → v_base.toInt ≤ 0 → 0 ≤ v_ends.toInt → v_ends.toInt ≤ 120 → 0 ≤ v_at.toInt → v_at.toInt ≤ v_ends.toInt → 0 ≤ v_opened.toInt → v_opened.toInt ≤ 6 → v_fault.toInt < 0 → K ≤ v_opened.toInt → wp (go v_base v_at v_ends v_fault v_opened v_tape v_text v_names) (cu4 (fun (r : Int32) (wv_at : Int32) (wv_fault : Int32) (wv_opened : Int32) => v_at.toInt ≤ wv_at.toInt ∧ wv_at.toInt ≤ v_ends.toInt ∧ v_opened.toInt ≤ wv_opened.toInt ∧ wv_opened.toInt ≤ 6 ∧ ((wv_fault.toInt < 0 → wv_opened.toInt = v_opened.toInt)) ∧ ((0 ≤ v_fault.toInt → 0 ≤ wv_fault.toInt))))) : wp (fX9_product N go v_base v_at v_ends v_fault v_opened v_tape v_text v_names) (cu4 (fun (r : Int32) (wv_at : Int32) (wv_fault : Int32) (wv_opened : Int32) => v_at.toInt ≤ wv_at.toInt ∧ wv_at.toInt ≤ v_ends.toInt ∧ v_opened.toInt ≤ wv_opened.toInt ∧ wv_opened.toInt ≤ 6 ∧ ((wv_fault.toInt < 0 → wv_opened.toInt = v_opened.toInt)) ∧ ((0 ≤ v_fault.toInt → 0 ≤ wv_fault.toInt)))) := by
  refine wp_of (uf_X9_product _ _ _ _ _ _ _ _ _ _) ?_
  refine wp_bd4 (hgo _ _ _ _ _ _ _ _ h_0 h_1 h_2 h_3 h_4 h_5 h_6 h_7 h_8 h_9 h_10 h_11 h_12) (fun r_1 w_2 w_3 w_4 ⟨q_1, q_2, q_3, q_4, q_5, q_6⟩ => ?_)
  refine wp_bd1 (sf_X9_byteAt hN h_0 h_1 h_3 h_4 h_5 h_6 (by omega) q_2) (fun r_6 q_7 => ?_)
  refine wp_cu4 (sf_X9_product_10 hN hgo _ _ _ _ _ _ _ _ _ _ _ h_0 h_1 h_2 h_3 h_4 h_5 h_6 (by omega) q_2 (by omega) q_4 (by omega) q_7 (by omega)) (fun z_r z_wv_at z_wv_fault z_wv_opened ⟨q_8, q_9, q_10, q_11, q_12, q_13⟩ => ?_)
  exact ⟨(by omega), (by omega), (by omega), (by omega), (by omega), (by omega)⟩

theorem uf_X9_sums_30 (N : Nat) (go : Int32 → Int32 → Int32 → Int32 → Int32 → List Int32 → List Int32 → List Int32 → Option (Int32 × Int32 × Int32 × Int32)) (k_5 : Int32 → Int32 → Int32 → Int32 → Int32 → Int32 → List Int32 → List Int32 → List Int32 → Option (Int32 × Int32 × Int32 × Int32)) (x1 : Int32) (v_base : Int32) (v_at : Int32) (v_ends : Int32) (v_fault : Int32) (v_opened : Int32) (v_tape : List Int32) (v_text : List Int32) (v_names : List Int32) : fX9_sums_30 N go k_5 x1 v_base v_at v_ends v_fault v_opened v_tape v_text v_names = mm_bd1 (fX9_byteAt N v_base v_at v_ends v_tape v_text) (fun (r_13 : Int32) =>
    if r_13 = (43 : Int32) then
    (fX9_sums_44 N go k_5 x1 (1 : Int32) v_base v_at v_ends v_fault v_opened v_tape v_text v_names)
    else (fX9_sums_44 N go k_5 x1 (0 : Int32) v_base v_at v_ends v_fault v_opened v_tape v_text v_names)) := rfl

theorem uf_X9_sums_44 (N : Nat) (go : Int32 → Int32 → Int32 → Int32 → Int32 → List Int32 → List Int32 → List Int32 → Option (Int32 × Int32 × Int32 × Int32)) (k_5 : Int32 → Int32 → Int32 → Int32 → Int32 → Int32 → List Int32 → List Int32 → List Int32 → Option (Int32 × Int32 × Int32 × Int32)) (x1 : Int32) (s0 : Int32) (v_base : Int32) (v_at : Int32) (v_ends : Int32) (v_fault : Int32) (v_opened : Int32) (v_tape : List Int32) (v_text : List Int32) (v_names : List Int32) : fX9_sums_44 N go k_5 x1 s0 v_base v_at v_ends v_fault v_opened v_tape v_text v_names = mm_nm ((v_at + (1 : Int32))) (fun (y_16 : Int32) =>
    mm_bd4 (fX9_product N go v_base y_16 v_ends v_fault v_opened v_tape v_text v_names) (fun (r_17 : Int32) (w_18 : Int32) (w_19 : Int32) (w_20 : Int32) =>
    if s0 = 0 then
    (fX9_sums_73 N go k_5 (x1 - r_17) v_base w_18 v_ends w_19 w_20 v_tape v_text v_names)
    else (fX9_sums_73 N go k_5 (x1 + r_17) v_base w_18 v_ends w_19 w_20 v_tape v_text v_names))) := rfl

theorem uf_X9_sums_5 (N : Nat) (go : Int32 → Int32 → Int32 → Int32 → Int32 → List Int32 → List Int32 → List Int32 → Option (Int32 × Int32 × Int32 × Int32)) (n : Nat) (x1 : Int32) (v_base : Int32) (v_at : Int32) (v_ends : Int32) (v_fault : Int32) (v_opened : Int32) (v_tape : List Int32) (v_text : List Int32) (v_names : List Int32) : fX9_sums_5 N go (n + 1) x1 v_base v_at v_ends v_fault v_opened v_tape v_text v_names = 
    if 0 ≤ v_fault then
    (some (x1, v_at, v_fault, v_opened))
    else (mm_bd1 (fX9_byteAt N v_base v_at v_ends v_tape v_text) (fun (r_7 : Int32) =>
    if r_7 = (43 : Int32) then
    (fX9_sums_30 N go (fX9_sums_5 N go n) x1 v_base v_at v_ends v_fault v_opened v_tape v_text v_names)
    else (mm_bd1 (fX9_byteAt N v_base v_at v_ends v_tape v_text) (fun (r_10 : Int32) =>
    if r_10 = (45 : Int32) then
    (fX9_sums_30 N go (fX9_sums_5 N go n) x1 v_base v_at v_ends v_fault v_opened v_tape v_text v_names)
    else (some (x1, v_at, v_fault, v_opened)))))) := rfl

theorem uf_X9_sums_73 (N : Nat) (go : Int32 → Int32 → Int32 → Int32 → Int32 → List Int32 → List Int32 → List Int32 → Option (Int32 × Int32 × Int32 × Int32)) (k_5 : Int32 → Int32 → Int32 → Int32 → Int32 → Int32 → List Int32 → List Int32 → List Int32 → Option (Int32 × Int32 × Int32 × Int32)) (s0 : Int32) (v_base : Int32) (v_at : Int32) (v_ends : Int32) (v_fault : Int32) (v_opened : Int32) (v_tape : List Int32) (v_text : List Int32) (v_names : List Int32) : fX9_sums_73 N go k_5 s0 v_base v_at v_ends v_fault v_opened v_tape v_text v_names = k_5 s0 v_base v_at v_ends v_fault v_opened v_tape v_text v_names := rfl

set_option maxHeartbeats 4000000 in
set_option maxRecDepth 20000 in
theorem sf_X9_sums_5 {N : Nat} (hN : 700 ≤ N) {K : Int} {go : Int32 → Int32 → Int32 → Int32 → Int32 → List Int32 → List Int32 → List Int32 → Option (Int32 × Int32 × Int32 × Int32)} (hgo : ∀ (v_base : Int32) (v_at : Int32) (v_ends : Int32) (v_fault : Int32) (v_opened : Int32) (v_tape : List Int32) (v_text : List Int32) (v_names : List Int32), v_tape.length = 120 → v_text.length = 120 → v_names.length = 6 → -1 ≤ v_base.toInt → v_base.toInt ≤ 0 → 0 ≤ v_ends.toInt → v_ends.toInt ≤ 120 → 0 ≤ v_at.toInt → v_at.toInt ≤ v_ends.toInt → 0 ≤ v_opened.toInt → v_opened.toInt ≤ 6 → v_fault.toInt < 0 → K ≤ v_opened.toInt → wp (go v_base v_at v_ends v_fault v_opened v_tape v_text v_names) (cu4 (fun (r : Int32) (wv_at : Int32) (wv_fault : Int32) (wv_opened : Int32) => v_at.toInt ≤ wv_at.toInt ∧ wv_at.toInt ≤ v_ends.toInt ∧ v_opened.toInt ≤ wv_opened.toInt ∧ wv_opened.toInt ≤ 6 ∧ ((wv_fault.toInt < 0 → wv_opened.toInt = v_opened.toInt)) ∧ ((0 ≤ v_fault.toInt → 0 ≤ wv_fault.toInt))))) : ∀ (n : Nat) (x1 : Int32) (v_base : Int32) (v_at : Int32) (v_ends : Int32) (v_fault : Int32) (v_opened : Int32) (v_tape : List Int32) (v_text : List Int32) (v_names : List Int32), v_tape.length = 120 → v_text.length = 120 → v_names.length = 6 → -1 ≤ v_base.toInt → v_base.toInt ≤ 0 → 0 ≤ v_ends.toInt → v_ends.toInt ≤ 120 → 0 ≤ v_at.toInt → v_at.toInt ≤ v_ends.toInt → 0 ≤ v_opened.toInt → v_opened.toInt ≤ 6 → (v_fault.toInt < 0 → K ≤ v_opened.toInt) → (v_ends.toInt - v_at.toInt).toNat < n → wp (fX9_sums_5 N go n x1 v_base v_at v_ends v_fault v_opened v_tape v_text v_names) (cu4 (fun (r : Int32) (wv_at : Int32) (wv_fault : Int32) (wv_opened : Int32) => v_at.toInt ≤ wv_at.toInt ∧ wv_at.toInt ≤ v_ends.toInt ∧ v_opened.toInt ≤ wv_opened.toInt ∧ wv_opened.toInt ≤ 6 ∧ ((wv_fault.toInt < 0 → wv_opened.toInt = v_opened.toInt)) ∧ ((0 ≤ v_fault.toInt → 0 ≤ wv_fault.toInt)))) := by
  intro n
  induction n with
  | zero =>
    intro x1 v_base v_at v_ends v_fault v_opened v_tape v_text v_names h_0 h_1 h_2 h_3 h_4 h_5 h_6 h_7 h_8 h_9 h_10 h_11 hm
    exact absurd hm (by omega)
  | succ n ih =>
    intro x1 v_base v_at v_ends v_fault v_opened v_tape v_text v_names h_0 h_1 h_2 h_3 h_4 h_5 h_6 h_7 h_8 h_9 h_10 h_11 hm
    refine wp_of (uf_X9_sums_5 _ _ _ _ _ _ _ _ _ _ _ _) ?_
    have n_2 : (0 : Int32).toInt = 0 := by decide
    refine wp_if (fun c_1 => ?_) (fun c_1 => ?_)
    ·
      have dc_1 := i_le c_1
      exact wp_so4 ⟨(by omega), h_8, (by omega), h_10, (by omega), (by omega)⟩
    ·
      have dc_1 := i_nle c_1
      refine wp_bd1 (sf_X9_byteAt hN h_0 h_1 h_3 h_4 h_5 h_6 h_7 h_8) (fun r_7 q_3 => ?_)
      have n_5 : (43 : Int32).toInt = 43 := by decide
      refine wp_if (fun c_4 => ?_) (fun c_4 => ?_)
      ·
        have dc_4 := i_eq c_4
        refine wp_of (uf_X9_sums_30 _ _ _ _ _ _ _ _ _ _ _ _) ?_
        refine wp_bd1 (sf_X9_byteAt hN h_0 h_1 h_3 h_4 h_5 h_6 h_7 h_8) (fun r_13 q_6 => ?_)
        refine wp_if (fun c_7 => ?_) (fun c_7 => ?_)
        ·
          have dc_7 := i_eq c_7
          refine wp_of (uf_X9_sums_44 _ _ _ _ _ _ _ _ _ _ _ _ _) ?_
          have n_8 : (1 : Int32).toInt = 1 := by decide
          refine wp_nm (fun y_16 h_y_16 => ?_)
          have e_9 := i_addE h_y_16.symm (by omega) (by omega)
          refine wp_bd4 (sf_X9_product hN h_0 h_1 h_2 h_3 h_4 h_5 h_6 (by omega) (by omega) h_9 h_10 (by omega) (by omega) hgo) (fun r_17 w_18 w_19 w_20 ⟨q_10, q_11, q_12, q_13, q_14, q_15⟩ => ?_)
          refine wp_ifn (by decide) ?_
          refine wp_of (uf_X9_sums_73 _ _ _ _ _ _ _ _ _ _ _ _) ?_
          refine wp_cu4 (ih _ _ _ _ _ _ _ _ _ h_0 h_1 h_2 h_3 h_4 h_5 h_6 (by omega) q_11 (by omega) q_13 (by omega) (by omega)) (fun z_r z_wv_at z_wv_fault z_wv_opened ⟨q_16, q_17, q_18, q_19, q_20, q_21⟩ => ?_)
          exact ⟨(by omega), (by omega), (by omega), (by omega), (by omega), (by omega)⟩
        ·
          have dc_7 := i_ne c_7
          refine wp_of (uf_X9_sums_44 _ _ _ _ _ _ _ _ _ _ _ _ _) ?_
          have n_23 : (1 : Int32).toInt = 1 := by decide
          refine wp_nm (fun y_16__22 h_y_16__22 => ?_)
          have e_24 := i_addE h_y_16__22.symm (by omega) (by omega)
          refine wp_bd4 (sf_X9_product hN h_0 h_1 h_2 h_3 h_4 h_5 h_6 (by omega) (by omega) h_9 h_10 (by omega) (by omega) hgo) (fun r_17__25 w_18__26 w_19__27 w_20__28 ⟨q_29, q_30, q_31, q_32, q_33, q_34⟩ => ?_)
          refine wp_ifp (by decide) ?_
          refine wp_of (uf_X9_sums_73 _ _ _ _ _ _ _ _ _ _ _ _) ?_
          refine wp_cu4 (ih _ _ _ _ _ _ _ _ _ h_0 h_1 h_2 h_3 h_4 h_5 h_6 (by omega) q_30 (by omega) q_32 (by omega) (by omega)) (fun z_r__35 z_wv_at__36 z_wv_fault__37 z_wv_opened__38 ⟨q_39, q_40, q_41, q_42, q_43, q_44⟩ => ?_)
          exact ⟨(by omega), (by omega), (by omega), (by omega), (by omega), (by omega)⟩
      ·
        have dc_4 := i_ne c_4
        refine wp_bd1 (sf_X9_byteAt hN h_0 h_1 h_3 h_4 h_5 h_6 h_7 h_8) (fun r_10 q_45 => ?_)
        have n_47 : (45 : Int32).toInt = 45 := by decide
        refine wp_if (fun c_46 => ?_) (fun c_46 => ?_)
        ·
          have dc_46 := i_eq c_46
          refine wp_of (uf_X9_sums_30 _ _ _ _ _ _ _ _ _ _ _ _) ?_
          refine wp_bd1 (sf_X9_byteAt hN h_0 h_1 h_3 h_4 h_5 h_6 h_7 h_8) (fun r_13__48 q_49 => ?_)
          refine wp_if (fun c_50 => ?_) (fun c_50 => ?_)
          ·
            have dc_50 := i_eq c_50
            refine wp_of (uf_X9_sums_44 _ _ _ _ _ _ _ _ _ _ _ _ _) ?_
            have n_52 : (1 : Int32).toInt = 1 := by decide
            refine wp_nm (fun y_16__51 h_y_16__51 => ?_)
            have e_53 := i_addE h_y_16__51.symm (by omega) (by omega)
            refine wp_bd4 (sf_X9_product hN h_0 h_1 h_2 h_3 h_4 h_5 h_6 (by omega) (by omega) h_9 h_10 (by omega) (by omega) hgo) (fun r_17__54 w_18__55 w_19__56 w_20__57 ⟨q_58, q_59, q_60, q_61, q_62, q_63⟩ => ?_)
            refine wp_ifn (by decide) ?_
            refine wp_of (uf_X9_sums_73 _ _ _ _ _ _ _ _ _ _ _ _) ?_
            refine wp_cu4 (ih _ _ _ _ _ _ _ _ _ h_0 h_1 h_2 h_3 h_4 h_5 h_6 (by omega) q_59 (by omega) q_61 (by omega) (by omega)) (fun z_r__64 z_wv_at__65 z_wv_fault__66 z_wv_opened__67 ⟨q_68, q_69, q_70, q_71, q_72, q_73⟩ => ?_)
            exact ⟨(by omega), (by omega), (by omega), (by omega), (by omega), (by omega)⟩
          ·
            have dc_50 := i_ne c_50
            refine wp_of (uf_X9_sums_44 _ _ _ _ _ _ _ _ _ _ _ _ _) ?_
            have n_75 : (1 : Int32).toInt = 1 := by decide
            refine wp_nm (fun y_16__74 h_y_16__74 => ?_)
            have e_76 := i_addE h_y_16__74.symm (by omega) (by omega)
            refine wp_bd4 (sf_X9_product hN h_0 h_1 h_2 h_3 h_4 h_5 h_6 (by omega) (by omega) h_9 h_10 (by omega) (by omega) hgo) (fun r_17__77 w_18__78 w_19__79 w_20__80 ⟨q_81, q_82, q_83, q_84, q_85, q_86⟩ => ?_)
            refine wp_ifp (by decide) ?_
            refine wp_of (uf_X9_sums_73 _ _ _ _ _ _ _ _ _ _ _ _) ?_
            refine wp_cu4 (ih _ _ _ _ _ _ _ _ _ h_0 h_1 h_2 h_3 h_4 h_5 h_6 (by omega) q_82 (by omega) q_84 (by omega) (by omega)) (fun z_r__87 z_wv_at__88 z_wv_fault__89 z_wv_opened__90 ⟨q_91, q_92, q_93, q_94, q_95, q_96⟩ => ?_)
            exact ⟨(by omega), (by omega), (by omega), (by omega), (by omega), (by omega)⟩
        ·
          have dc_46 := i_ne c_46
          exact wp_so4 ⟨(by omega), h_8, (by omega), h_10, (by omega), (by omega)⟩

theorem uf_X9_sums (N : Nat) (go : Int32 → Int32 → Int32 → Int32 → Int32 → List Int32 → List Int32 → List Int32 → Option (Int32 × Int32 × Int32 × Int32)) (v_base : Int32) (v_at : Int32) (v_ends : Int32) (v_fault : Int32) (v_opened : Int32) (v_tape : List Int32) (v_text : List Int32) (v_names : List Int32) : fX9_sums N go v_base v_at v_ends v_fault v_opened v_tape v_text v_names = mm_bd4 (fX9_product N go v_base v_at v_ends v_fault v_opened v_tape v_text v_names) (fun (r_1 : Int32) (w_2 : Int32) (w_3 : Int32) (w_4 : Int32) =>
    fX9_sums_5 N go N r_1 v_base w_2 v_ends w_3 w_4 v_tape v_text v_names) := rfl

set_option maxHeartbeats 4000000 in
set_option maxRecDepth 20000 in
theorem sf_X9_sums {N : Nat} (hN : 700 ≤ N) {K : Int} {go : Int32 → Int32 → Int32 → Int32 → Int32 → List Int32 → List Int32 → List Int32 → Option (Int32 × Int32 × Int32 × Int32)} {v_base : Int32} {v_at : Int32} {v_ends : Int32} {v_fault : Int32} {v_opened : Int32} {v_tape : List Int32} {v_text : List Int32} {v_names : List Int32} (h_0 : v_tape.length = 120) (h_1 : v_text.length = 120) (h_2 : v_names.length = 6) (h_3 : -1 ≤ v_base.toInt) (h_4 : v_base.toInt ≤ 0) (h_5 : 0 ≤ v_ends.toInt) (h_6 : v_ends.toInt ≤ 120) (h_7 : 0 ≤ v_at.toInt) (h_8 : v_at.toInt ≤ v_ends.toInt) (h_9 : 0 ≤ v_opened.toInt) (h_10 : v_opened.toInt ≤ 6) (h_11 : v_fault.toInt < 0) (h_12 : K ≤ v_opened.toInt) (hgo : ∀ (v_base : Int32) (v_at : Int32) (v_ends : Int32) (v_fault : Int32) (v_opened : Int32) (v_tape : List Int32) (v_text : List Int32) (v_names : List Int32), v_tape.length = 120 → v_text.length = 120 → v_names.length = 6 → -1 ≤ v_base.toInt → v_base.toInt ≤ 0 → 0 ≤ v_ends.toInt → v_ends.toInt ≤ 120 → 0 ≤ v_at.toInt → v_at.toInt ≤ v_ends.toInt → 0 ≤ v_opened.toInt → v_opened.toInt ≤ 6 → v_fault.toInt < 0 → K ≤ v_opened.toInt → wp (go v_base v_at v_ends v_fault v_opened v_tape v_text v_names) (cu4 (fun (r : Int32) (wv_at : Int32) (wv_fault : Int32) (wv_opened : Int32) => v_at.toInt ≤ wv_at.toInt ∧ wv_at.toInt ≤ v_ends.toInt ∧ v_opened.toInt ≤ wv_opened.toInt ∧ wv_opened.toInt ≤ 6 ∧ ((wv_fault.toInt < 0 → wv_opened.toInt = v_opened.toInt)) ∧ ((0 ≤ v_fault.toInt → 0 ≤ wv_fault.toInt))))) : wp (fX9_sums N go v_base v_at v_ends v_fault v_opened v_tape v_text v_names) (cu4 (fun (r : Int32) (wv_at : Int32) (wv_fault : Int32) (wv_opened : Int32) => v_at.toInt ≤ wv_at.toInt ∧ wv_at.toInt ≤ v_ends.toInt ∧ v_opened.toInt ≤ wv_opened.toInt ∧ wv_opened.toInt ≤ 6 ∧ ((wv_fault.toInt < 0 → wv_opened.toInt = v_opened.toInt)) ∧ ((0 ≤ v_fault.toInt → 0 ≤ wv_fault.toInt)))) := by
  refine wp_of (uf_X9_sums _ _ _ _ _ _ _ _ _ _) ?_
  refine wp_bd4 (sf_X9_product hN h_0 h_1 h_2 h_3 h_4 h_5 h_6 h_7 h_8 h_9 h_10 h_11 h_12 hgo) (fun r_1 w_2 w_3 w_4 ⟨q_1, q_2, q_3, q_4, q_5, q_6⟩ => ?_)
  refine wp_cu4 (sf_X9_sums_5 hN hgo _ _ _ _ _ _ _ _ _ _ h_0 h_1 h_2 h_3 h_4 h_5 h_6 (by omega) q_2 (by omega) q_4 (by omega) (by omega)) (fun z_r z_wv_at z_wv_fault z_wv_opened ⟨q_7, q_8, q_9, q_10, q_11, q_12⟩ => ?_)
  exact ⟨(by omega), (by omega), (by omega), (by omega), (by omega), (by omega)⟩

theorem uf_X9_compared (N : Nat) (go : Int32 → Int32 → Int32 → Int32 → Int32 → List Int32 → List Int32 → List Int32 → Option (Int32 × Int32 × Int32 × Int32)) (v_base : Int32) (v_at : Int32) (v_ends : Int32) (v_fault : Int32) (v_opened : Int32) (v_tape : List Int32) (v_text : List Int32) (v_names : List Int32) : fX9_compared N go v_base v_at v_ends v_fault v_opened v_tape v_text v_names = mm_bd4 (fX9_sums N go v_base v_at v_ends v_fault v_opened v_tape v_text v_names) (fun (r_1 : Int32) (w_2 : Int32) (w_3 : Int32) (w_4 : Int32) =>
    mm_bd1 (fX9_byteAt N v_base w_2 v_ends v_tape v_text) (fun (r_6 : Int32) =>
    if 0 ≤ w_3 then
    (some (r_1, w_2, w_3, w_4))
    else (if r_6 = (60 : Int32) then
    (fX9_compared_37 N go r_1 r_6 v_base w_2 v_ends w_3 w_4 v_tape v_text v_names)
    else (if r_6 = (61 : Int32) then
    (fX9_compared_37 N go r_1 r_6 v_base w_2 v_ends w_3 w_4 v_tape v_text v_names)
    else (if r_6 = (62 : Int32) then
    (fX9_compared_37 N go r_1 r_6 v_base w_2 v_ends w_3 w_4 v_tape v_text v_names)
    else (some (r_1, w_2, w_3, w_4))))))) := rfl

theorem uf_X9_compared_37 (N : Nat) (go : Int32 → Int32 → Int32 → Int32 → Int32 → List Int32 → List Int32 → List Int32 → Option (Int32 × Int32 × Int32 × Int32)) (x1 : Int32) (x2 : Int32) (v_base : Int32) (v_at : Int32) (v_ends : Int32) (v_fault : Int32) (v_opened : Int32) (v_tape : List Int32) (v_text : List Int32) (v_names : List Int32) : fX9_compared_37 N go x1 x2 v_base v_at v_ends v_fault v_opened v_tape v_text v_names = mm_nm ((v_at + (1 : Int32))) (fun (y_12 : Int32) =>
    mm_bd4 (fX9_sums N go v_base y_12 v_ends v_fault v_opened v_tape v_text v_names) (fun (r_13 : Int32) (w_14 : Int32) (w_15 : Int32) (w_16 : Int32) =>
    if x2 = (60 : Int32) then
    (if r_13 ≤ x1 then
    (some ((0 : Int32), w_14, w_15, w_16))
    else (some ((1 : Int32), w_14, w_15, w_16)))
    else (if x2 = (61 : Int32) then
    (if x1 = r_13 then
    (some ((1 : Int32), w_14, w_15, w_16))
    else (some ((0 : Int32), w_14, w_15, w_16)))
    else (if x1 ≤ r_13 then
    (some ((0 : Int32), w_14, w_15, w_16))
    else (some ((1 : Int32), w_14, w_15, w_16)))))) := rfl

set_option maxHeartbeats 4000000 in
set_option maxRecDepth 20000 in
theorem sf_X9_compared {N : Nat} (hN : 700 ≤ N) {K : Int} {go : Int32 → Int32 → Int32 → Int32 → Int32 → List Int32 → List Int32 → List Int32 → Option (Int32 × Int32 × Int32 × Int32)} {v_base : Int32} {v_at : Int32} {v_ends : Int32} {v_fault : Int32} {v_opened : Int32} {v_tape : List Int32} {v_text : List Int32} {v_names : List Int32} (h_0 : v_tape.length = 120) (h_1 : v_text.length = 120) (h_2 : v_names.length = 6) (h_3 : -1 ≤ v_base.toInt) (h_4 : v_base.toInt ≤ 0) (h_5 : 0 ≤ v_ends.toInt) (h_6 : v_ends.toInt ≤ 120) (h_7 : 0 ≤ v_at.toInt) (h_8 : v_at.toInt ≤ v_ends.toInt) (h_9 : 0 ≤ v_opened.toInt) (h_10 : v_opened.toInt ≤ 6) (h_11 : v_fault.toInt < 0) (h_12 : K ≤ v_opened.toInt) (hgo : ∀ (v_base : Int32) (v_at : Int32) (v_ends : Int32) (v_fault : Int32) (v_opened : Int32) (v_tape : List Int32) (v_text : List Int32) (v_names : List Int32), v_tape.length = 120 → v_text.length = 120 → v_names.length = 6 → -1 ≤ v_base.toInt → v_base.toInt ≤ 0 → 0 ≤ v_ends.toInt → v_ends.toInt ≤ 120 → 0 ≤ v_at.toInt → v_at.toInt ≤ v_ends.toInt → 0 ≤ v_opened.toInt → v_opened.toInt ≤ 6 → v_fault.toInt < 0 → K ≤ v_opened.toInt → wp (go v_base v_at v_ends v_fault v_opened v_tape v_text v_names) (cu4 (fun (r : Int32) (wv_at : Int32) (wv_fault : Int32) (wv_opened : Int32) => v_at.toInt ≤ wv_at.toInt ∧ wv_at.toInt ≤ v_ends.toInt ∧ v_opened.toInt ≤ wv_opened.toInt ∧ wv_opened.toInt ≤ 6 ∧ ((wv_fault.toInt < 0 → wv_opened.toInt = v_opened.toInt)) ∧ ((0 ≤ v_fault.toInt → 0 ≤ wv_fault.toInt))))) : wp (fX9_compared N go v_base v_at v_ends v_fault v_opened v_tape v_text v_names) (cu4 (fun (r : Int32) (wv_at : Int32) (wv_fault : Int32) (wv_opened : Int32) => v_at.toInt ≤ wv_at.toInt ∧ wv_at.toInt ≤ v_ends.toInt ∧ v_opened.toInt ≤ wv_opened.toInt ∧ wv_opened.toInt ≤ 6 ∧ ((wv_fault.toInt < 0 → wv_opened.toInt = v_opened.toInt)) ∧ ((0 ≤ v_fault.toInt → 0 ≤ wv_fault.toInt)))) := by
  refine wp_of (uf_X9_compared _ _ _ _ _ _ _ _ _ _) ?_
  refine wp_bd4 (sf_X9_sums hN h_0 h_1 h_2 h_3 h_4 h_5 h_6 h_7 h_8 h_9 h_10 h_11 h_12 hgo) (fun r_1 w_2 w_3 w_4 ⟨q_1, q_2, q_3, q_4, q_5, q_6⟩ => ?_)
  refine wp_bd1 (sf_X9_byteAt hN h_0 h_1 h_3 h_4 h_5 h_6 (by omega) q_2) (fun r_6 q_7 => ?_)
  have n_9 : (0 : Int32).toInt = 0 := by decide
  refine wp_if (fun c_8 => ?_) (fun c_8 => ?_)
  ·
    have dc_8 := i_le c_8
    exact wp_so4 ⟨q_1, q_2, q_3, q_4, q_5, q_6⟩
  ·
    have dc_8 := i_nle c_8
    have n_11 : (60 : Int32).toInt = 60 := by decide
    refine wp_if (fun c_10 => ?_) (fun c_10 => ?_)
    ·
      have dc_10 := i_eq c_10
      refine wp_of (uf_X9_compared_37 _ _ _ _ _ _ _ _ _ _ _ _) ?_
      have n_12 : (1 : Int32).toInt = 1 := by decide
      refine wp_nm (fun y_12 h_y_12 => ?_)
      have e_13 := i_addE h_y_12.symm (by omega) (by omega)
      refine wp_bd4 (sf_X9_sums hN h_0 h_1 h_2 h_3 h_4 h_5 h_6 (by omega) (by omega) (by omega) q_4 (by omega) (by omega) hgo) (fun r_13 w_14 w_15 w_16 ⟨q_14, q_15, q_16, q_17, q_18, q_19⟩ => ?_)
      refine wp_ifp c_10 ?_
      refine wp_if (fun c_20 => ?_) (fun c_20 => ?_)
      ·
        have dc_20 := i_le c_20
        exact wp_so4 ⟨(by omega), q_15, (by omega), q_17, (by omega), (by omega)⟩
      ·
        have dc_20 := i_nle c_20
        exact wp_so4 ⟨(by omega), q_15, (by omega), q_17, (by omega), (by omega)⟩
    ·
      have dc_10 := i_ne c_10
      have n_22 : (61 : Int32).toInt = 61 := by decide
      refine wp_if (fun c_21 => ?_) (fun c_21 => ?_)
      ·
        have dc_21 := i_eq c_21
        refine wp_of (uf_X9_compared_37 _ _ _ _ _ _ _ _ _ _ _ _) ?_
        have n_24 : (1 : Int32).toInt = 1 := by decide
        refine wp_nm (fun y_12__23 h_y_12__23 => ?_)
        have e_25 := i_addE h_y_12__23.symm (by omega) (by omega)
        refine wp_bd4 (sf_X9_sums hN h_0 h_1 h_2 h_3 h_4 h_5 h_6 (by omega) (by omega) (by omega) q_4 (by omega) (by omega) hgo) (fun r_13__26 w_14__27 w_15__28 w_16__29 ⟨q_30, q_31, q_32, q_33, q_34, q_35⟩ => ?_)
        refine wp_ifn c_10 ?_
        refine wp_ifp c_21 ?_
        refine wp_if (fun c_36 => ?_) (fun c_36 => ?_)
        ·
          have dc_36 := i_eq c_36
          exact wp_so4 ⟨(by omega), q_31, (by omega), q_33, (by omega), (by omega)⟩
        ·
          have dc_36 := i_ne c_36
          exact wp_so4 ⟨(by omega), q_31, (by omega), q_33, (by omega), (by omega)⟩
      ·
        have dc_21 := i_ne c_21
        have n_38 : (62 : Int32).toInt = 62 := by decide
        refine wp_if (fun c_37 => ?_) (fun c_37 => ?_)
        ·
          have dc_37 := i_eq c_37
          refine wp_of (uf_X9_compared_37 _ _ _ _ _ _ _ _ _ _ _ _) ?_
          have n_40 : (1 : Int32).toInt = 1 := by decide
          refine wp_nm (fun y_12__39 h_y_12__39 => ?_)
          have e_41 := i_addE h_y_12__39.symm (by omega) (by omega)
          refine wp_bd4 (sf_X9_sums hN h_0 h_1 h_2 h_3 h_4 h_5 h_6 (by omega) (by omega) (by omega) q_4 (by omega) (by omega) hgo) (fun r_13__42 w_14__43 w_15__44 w_16__45 ⟨q_46, q_47, q_48, q_49, q_50, q_51⟩ => ?_)
          refine wp_ifn c_10 ?_
          refine wp_ifn c_21 ?_
          refine wp_if (fun c_52 => ?_) (fun c_52 => ?_)
          ·
            have dc_52 := i_le c_52
            exact wp_so4 ⟨(by omega), q_47, (by omega), q_49, (by omega), (by omega)⟩
          ·
            have dc_52 := i_nle c_52
            exact wp_so4 ⟨(by omega), q_47, (by omega), q_49, (by omega), (by omega)⟩
        ·
          have dc_37 := i_ne c_37
          exact wp_so4 ⟨q_1, q_2, q_3, q_4, q_5, q_6⟩

theorem uf_X9_both_31 (N : Nat) (go : Int32 → Int32 → Int32 → Int32 → Int32 → List Int32 → List Int32 → List Int32 → Option (Int32 × Int32 × Int32 × Int32)) (k_5 : Int32 → Int32 → Int32 → Int32 → Int32 → Int32 → List Int32 → List Int32 → List Int32 → Option (Int32 × Int32 × Int32 × Int32)) (v_base : Int32) (v_at : Int32) (v_ends : Int32) (v_fault : Int32) (v_opened : Int32) (v_tape : List Int32) (v_text : List Int32) (v_names : List Int32) : fX9_both_31 N go k_5 v_base v_at v_ends v_fault v_opened v_tape v_text v_names = fX9_both_32 N go k_5 (0 : Int32) v_base v_at v_ends v_fault v_opened v_tape v_text v_names := rfl

theorem uf_X9_both_32 (N : Nat) (go : Int32 → Int32 → Int32 → Int32 → Int32 → List Int32 → List Int32 → List Int32 → Option (Int32 × Int32 × Int32 × Int32)) (k_5 : Int32 → Int32 → Int32 → Int32 → Int32 → Int32 → List Int32 → List Int32 → List Int32 → Option (Int32 × Int32 × Int32 × Int32)) (s0 : Int32) (v_base : Int32) (v_at : Int32) (v_ends : Int32) (v_fault : Int32) (v_opened : Int32) (v_tape : List Int32) (v_text : List Int32) (v_names : List Int32) : fX9_both_32 N go k_5 s0 v_base v_at v_ends v_fault v_opened v_tape v_text v_names = k_5 s0 v_base v_at v_ends v_fault v_opened v_tape v_text v_names := rfl

theorem uf_X9_both_5 (N : Nat) (go : Int32 → Int32 → Int32 → Int32 → Int32 → List Int32 → List Int32 → List Int32 → Option (Int32 × Int32 × Int32 × Int32)) (n : Nat) (x1 : Int32) (v_base : Int32) (v_at : Int32) (v_ends : Int32) (v_fault : Int32) (v_opened : Int32) (v_tape : List Int32) (v_text : List Int32) (v_names : List Int32) : fX9_both_5 N go (n + 1) x1 v_base v_at v_ends v_fault v_opened v_tape v_text v_names = 
    mm_bd2 (fX9_takes N (38 : Int32) v_base v_at v_ends v_fault v_tape v_text) (fun (r_6 : Bool) (w_7 : Int32) =>
    if r_6 = false then
    (some (x1, w_7, v_fault, v_opened))
    else (mm_bd4 (fX9_compared N go v_base w_7 v_ends v_fault v_opened v_tape v_text v_names) (fun (r_10 : Int32) (w_11 : Int32) (w_12 : Int32) (w_13 : Int32) =>
    if x1 = 0 then
    (fX9_both_31 N go (fX9_both_5 N go n) v_base w_11 v_ends w_12 w_13 v_tape v_text v_names)
    else (if r_10 = 0 then
    (fX9_both_31 N go (fX9_both_5 N go n) v_base w_11 v_ends w_12 w_13 v_tape v_text v_names)
    else (fX9_both_32 N go (fX9_both_5 N go n) (1 : Int32) v_base w_11 v_ends w_12 w_13 v_tape v_text v_names))))) := rfl

set_option maxHeartbeats 4000000 in
set_option maxRecDepth 20000 in
theorem sf_X9_both_5 {N : Nat} (hN : 700 ≤ N) {K : Int} {go : Int32 → Int32 → Int32 → Int32 → Int32 → List Int32 → List Int32 → List Int32 → Option (Int32 × Int32 × Int32 × Int32)} (hgo : ∀ (v_base : Int32) (v_at : Int32) (v_ends : Int32) (v_fault : Int32) (v_opened : Int32) (v_tape : List Int32) (v_text : List Int32) (v_names : List Int32), v_tape.length = 120 → v_text.length = 120 → v_names.length = 6 → -1 ≤ v_base.toInt → v_base.toInt ≤ 0 → 0 ≤ v_ends.toInt → v_ends.toInt ≤ 120 → 0 ≤ v_at.toInt → v_at.toInt ≤ v_ends.toInt → 0 ≤ v_opened.toInt → v_opened.toInt ≤ 6 → v_fault.toInt < 0 → K ≤ v_opened.toInt → wp (go v_base v_at v_ends v_fault v_opened v_tape v_text v_names) (cu4 (fun (r : Int32) (wv_at : Int32) (wv_fault : Int32) (wv_opened : Int32) => v_at.toInt ≤ wv_at.toInt ∧ wv_at.toInt ≤ v_ends.toInt ∧ v_opened.toInt ≤ wv_opened.toInt ∧ wv_opened.toInt ≤ 6 ∧ ((wv_fault.toInt < 0 → wv_opened.toInt = v_opened.toInt)) ∧ ((0 ≤ v_fault.toInt → 0 ≤ wv_fault.toInt))))) : ∀ (n : Nat) (x1 : Int32) (v_base : Int32) (v_at : Int32) (v_ends : Int32) (v_fault : Int32) (v_opened : Int32) (v_tape : List Int32) (v_text : List Int32) (v_names : List Int32), v_tape.length = 120 → v_text.length = 120 → v_names.length = 6 → -1 ≤ v_base.toInt → v_base.toInt ≤ 0 → 0 ≤ v_ends.toInt → v_ends.toInt ≤ 120 → 0 ≤ v_at.toInt → v_at.toInt ≤ v_ends.toInt → 0 ≤ v_opened.toInt → v_opened.toInt ≤ 6 → (v_fault.toInt < 0 → K ≤ v_opened.toInt) → (v_ends.toInt - v_at.toInt).toNat < n → wp (fX9_both_5 N go n x1 v_base v_at v_ends v_fault v_opened v_tape v_text v_names) (cu4 (fun (r : Int32) (wv_at : Int32) (wv_fault : Int32) (wv_opened : Int32) => v_at.toInt ≤ wv_at.toInt ∧ wv_at.toInt ≤ v_ends.toInt ∧ v_opened.toInt ≤ wv_opened.toInt ∧ wv_opened.toInt ≤ 6 ∧ ((wv_fault.toInt < 0 → wv_opened.toInt = v_opened.toInt)) ∧ ((0 ≤ v_fault.toInt → 0 ≤ wv_fault.toInt)))) := by
  intro n
  induction n with
  | zero =>
    intro x1 v_base v_at v_ends v_fault v_opened v_tape v_text v_names h_0 h_1 h_2 h_3 h_4 h_5 h_6 h_7 h_8 h_9 h_10 h_11 hm
    exact absurd hm (by omega)
  | succ n ih =>
    intro x1 v_base v_at v_ends v_fault v_opened v_tape v_text v_names h_0 h_1 h_2 h_3 h_4 h_5 h_6 h_7 h_8 h_9 h_10 h_11 hm
    refine wp_of (uf_X9_both_5 _ _ _ _ _ _ _ _ _ _ _ _) ?_
    have n_1 : (38 : Int32).toInt = 38 := by decide
    refine wp_bd2 (sf_X9_takes hN h_0 h_1 h_3 h_4 h_5 h_6 h_7 h_8 (by omega)) (fun r_6 w_7 q_2 => ?_)
    rcases q_2 with ⟨rfl, q_2⟩ | ⟨rfl, q_2⟩
    ·
      refine wp_ifn (by decide) ?_
      refine wp_bd4 (sf_X9_compared hN h_0 h_1 h_2 h_3 h_4 h_5 h_6 (by omega) (by omega) h_9 h_10 (by omega) (by omega) hgo) (fun r_10 w_11 w_12 w_13 ⟨q_3, q_4, q_5, q_6, q_7, q_8⟩ => ?_)
      have n_10 : (0 : Int32).toInt = 0 := by decide
      refine wp_if (fun c_9 => ?_) (fun c_9 => ?_)
      ·
        have dc_9 := i_eq c_9
        refine wp_of (uf_X9_both_31 _ _ _ _ _ _ _ _ _ _ _) ?_
        refine wp_of (uf_X9_both_32 _ _ _ _ _ _ _ _ _ _ _ _) ?_
        refine wp_cu4 (ih _ _ _ _ _ _ _ _ _ h_0 h_1 h_2 h_3 h_4 h_5 h_6 (by omega) q_4 (by omega) q_6 (by omega) (by omega)) (fun z_r z_wv_at z_wv_fault z_wv_opened ⟨q_11, q_12, q_13, q_14, q_15, q_16⟩ => ?_)
        exact ⟨(by omega), (by omega), (by omega), (by omega), (by omega), (by omega)⟩
      ·
        have dc_9 := i_ne c_9
        refine wp_if (fun c_17 => ?_) (fun c_17 => ?_)
        ·
          have dc_17 := i_eq c_17
          refine wp_of (uf_X9_both_31 _ _ _ _ _ _ _ _ _ _ _) ?_
          refine wp_of (uf_X9_both_32 _ _ _ _ _ _ _ _ _ _ _ _) ?_
          refine wp_cu4 (ih _ _ _ _ _ _ _ _ _ h_0 h_1 h_2 h_3 h_4 h_5 h_6 (by omega) q_4 (by omega) q_6 (by omega) (by omega)) (fun z_r__18 z_wv_at__19 z_wv_fault__20 z_wv_opened__21 ⟨q_22, q_23, q_24, q_25, q_26, q_27⟩ => ?_)
          exact ⟨(by omega), (by omega), (by omega), (by omega), (by omega), (by omega)⟩
        ·
          have dc_17 := i_ne c_17
          refine wp_of (uf_X9_both_32 _ _ _ _ _ _ _ _ _ _ _ _) ?_
          refine wp_cu4 (ih _ _ _ _ _ _ _ _ _ h_0 h_1 h_2 h_3 h_4 h_5 h_6 (by omega) q_4 (by omega) q_6 (by omega) (by omega)) (fun z_r__28 z_wv_at__29 z_wv_fault__30 z_wv_opened__31 ⟨q_32, q_33, q_34, q_35, q_36, q_37⟩ => ?_)
          exact ⟨(by omega), (by omega), (by omega), (by omega), (by omega), (by omega)⟩
    ·
      refine wp_ifp (by decide) ?_
      exact wp_so4 ⟨(by omega), (by omega), (by omega), h_10, (by omega), (by omega)⟩

theorem uf_X9_both (N : Nat) (go : Int32 → Int32 → Int32 → Int32 → Int32 → List Int32 → List Int32 → List Int32 → Option (Int32 × Int32 × Int32 × Int32)) (v_base : Int32) (v_at : Int32) (v_ends : Int32) (v_fault : Int32) (v_opened : Int32) (v_tape : List Int32) (v_text : List Int32) (v_names : List Int32) : fX9_both N go v_base v_at v_ends v_fault v_opened v_tape v_text v_names = mm_bd4 (fX9_compared N go v_base v_at v_ends v_fault v_opened v_tape v_text v_names) (fun (r_1 : Int32) (w_2 : Int32) (w_3 : Int32) (w_4 : Int32) =>
    fX9_both_5 N go N r_1 v_base w_2 v_ends w_3 w_4 v_tape v_text v_names) := rfl

set_option maxHeartbeats 4000000 in
set_option maxRecDepth 20000 in
theorem sf_X9_both {N : Nat} (hN : 700 ≤ N) {K : Int} {go : Int32 → Int32 → Int32 → Int32 → Int32 → List Int32 → List Int32 → List Int32 → Option (Int32 × Int32 × Int32 × Int32)} {v_base : Int32} {v_at : Int32} {v_ends : Int32} {v_fault : Int32} {v_opened : Int32} {v_tape : List Int32} {v_text : List Int32} {v_names : List Int32} (h_0 : v_tape.length = 120) (h_1 : v_text.length = 120) (h_2 : v_names.length = 6) (h_3 : -1 ≤ v_base.toInt) (h_4 : v_base.toInt ≤ 0) (h_5 : 0 ≤ v_ends.toInt) (h_6 : v_ends.toInt ≤ 120) (h_7 : 0 ≤ v_at.toInt) (h_8 : v_at.toInt ≤ v_ends.toInt) (h_9 : 0 ≤ v_opened.toInt) (h_10 : v_opened.toInt ≤ 6) (h_11 : v_fault.toInt < 0) (h_12 : K ≤ v_opened.toInt) (hgo : ∀ (v_base : Int32) (v_at : Int32) (v_ends : Int32) (v_fault : Int32) (v_opened : Int32) (v_tape : List Int32) (v_text : List Int32) (v_names : List Int32), v_tape.length = 120 → v_text.length = 120 → v_names.length = 6 → -1 ≤ v_base.toInt → v_base.toInt ≤ 0 → 0 ≤ v_ends.toInt → v_ends.toInt ≤ 120 → 0 ≤ v_at.toInt → v_at.toInt ≤ v_ends.toInt → 0 ≤ v_opened.toInt → v_opened.toInt ≤ 6 → v_fault.toInt < 0 → K ≤ v_opened.toInt → wp (go v_base v_at v_ends v_fault v_opened v_tape v_text v_names) (cu4 (fun (r : Int32) (wv_at : Int32) (wv_fault : Int32) (wv_opened : Int32) => v_at.toInt ≤ wv_at.toInt ∧ wv_at.toInt ≤ v_ends.toInt ∧ v_opened.toInt ≤ wv_opened.toInt ∧ wv_opened.toInt ≤ 6 ∧ ((wv_fault.toInt < 0 → wv_opened.toInt = v_opened.toInt)) ∧ ((0 ≤ v_fault.toInt → 0 ≤ wv_fault.toInt))))) : wp (fX9_both N go v_base v_at v_ends v_fault v_opened v_tape v_text v_names) (cu4 (fun (r : Int32) (wv_at : Int32) (wv_fault : Int32) (wv_opened : Int32) => v_at.toInt ≤ wv_at.toInt ∧ wv_at.toInt ≤ v_ends.toInt ∧ v_opened.toInt ≤ wv_opened.toInt ∧ wv_opened.toInt ≤ 6 ∧ ((wv_fault.toInt < 0 → wv_opened.toInt = v_opened.toInt)) ∧ ((0 ≤ v_fault.toInt → 0 ≤ wv_fault.toInt)))) := by
  refine wp_of (uf_X9_both _ _ _ _ _ _ _ _ _ _) ?_
  refine wp_bd4 (sf_X9_compared hN h_0 h_1 h_2 h_3 h_4 h_5 h_6 h_7 h_8 h_9 h_10 h_11 h_12 hgo) (fun r_1 w_2 w_3 w_4 ⟨q_1, q_2, q_3, q_4, q_5, q_6⟩ => ?_)
  refine wp_cu4 (sf_X9_both_5 hN hgo _ _ _ _ _ _ _ _ _ _ h_0 h_1 h_2 h_3 h_4 h_5 h_6 (by omega) q_2 (by omega) q_4 (by omega) (by omega)) (fun z_r z_wv_at z_wv_fault z_wv_opened ⟨q_7, q_8, q_9, q_10, q_11, q_12⟩ => ?_)
  exact ⟨(by omega), (by omega), (by omega), (by omega), (by omega), (by omega)⟩

theorem uf_X9_either_27 (N : Nat) (go : Int32 → Int32 → Int32 → Int32 → Int32 → List Int32 → List Int32 → List Int32 → Option (Int32 × Int32 × Int32 × Int32)) (k_5 : Int32 → Int32 → Int32 → Int32 → Int32 → Int32 → List Int32 → List Int32 → List Int32 → Option (Int32 × Int32 × Int32 × Int32)) (v_base : Int32) (v_at : Int32) (v_ends : Int32) (v_fault : Int32) (v_opened : Int32) (v_tape : List Int32) (v_text : List Int32) (v_names : List Int32) : fX9_either_27 N go k_5 v_base v_at v_ends v_fault v_opened v_tape v_text v_names = fX9_either_32 N go k_5 (1 : Int32) v_base v_at v_ends v_fault v_opened v_tape v_text v_names := rfl

theorem uf_X9_either_32 (N : Nat) (go : Int32 → Int32 → Int32 → Int32 → Int32 → List Int32 → List Int32 → List Int32 → Option (Int32 × Int32 × Int32 × Int32)) (k_5 : Int32 → Int32 → Int32 → Int32 → Int32 → Int32 → List Int32 → List Int32 → List Int32 → Option (Int32 × Int32 × Int32 × Int32)) (s0 : Int32) (v_base : Int32) (v_at : Int32) (v_ends : Int32) (v_fault : Int32) (v_opened : Int32) (v_tape : List Int32) (v_text : List Int32) (v_names : List Int32) : fX9_either_32 N go k_5 s0 v_base v_at v_ends v_fault v_opened v_tape v_text v_names = k_5 s0 v_base v_at v_ends v_fault v_opened v_tape v_text v_names := rfl

theorem uf_X9_either_5 (N : Nat) (go : Int32 → Int32 → Int32 → Int32 → Int32 → List Int32 → List Int32 → List Int32 → Option (Int32 × Int32 × Int32 × Int32)) (n : Nat) (x1 : Int32) (v_base : Int32) (v_at : Int32) (v_ends : Int32) (v_fault : Int32) (v_opened : Int32) (v_tape : List Int32) (v_text : List Int32) (v_names : List Int32) : fX9_either_5 N go (n + 1) x1 v_base v_at v_ends v_fault v_opened v_tape v_text v_names = 
    mm_bd2 (fX9_takes N (124 : Int32) v_base v_at v_ends v_fault v_tape v_text) (fun (r_6 : Bool) (w_7 : Int32) =>
    if r_6 = false then
    (some (x1, w_7, v_fault, v_opened))
    else (mm_bd4 (fX9_both N go v_base w_7 v_ends v_fault v_opened v_tape v_text v_names) (fun (r_10 : Int32) (w_11 : Int32) (w_12 : Int32) (w_13 : Int32) =>
    if x1 = 0 then
    (if r_10 = 0 then
    (fX9_either_32 N go (fX9_either_5 N go n) (0 : Int32) v_base w_11 v_ends w_12 w_13 v_tape v_text v_names)
    else (fX9_either_27 N go (fX9_either_5 N go n) v_base w_11 v_ends w_12 w_13 v_tape v_text v_names))
    else (fX9_either_27 N go (fX9_either_5 N go n) v_base w_11 v_ends w_12 w_13 v_tape v_text v_names)))) := rfl

set_option maxHeartbeats 4000000 in
set_option maxRecDepth 20000 in
theorem sf_X9_either_5 {N : Nat} (hN : 700 ≤ N) {K : Int} {go : Int32 → Int32 → Int32 → Int32 → Int32 → List Int32 → List Int32 → List Int32 → Option (Int32 × Int32 × Int32 × Int32)} (hgo : ∀ (v_base : Int32) (v_at : Int32) (v_ends : Int32) (v_fault : Int32) (v_opened : Int32) (v_tape : List Int32) (v_text : List Int32) (v_names : List Int32), v_tape.length = 120 → v_text.length = 120 → v_names.length = 6 → -1 ≤ v_base.toInt → v_base.toInt ≤ 0 → 0 ≤ v_ends.toInt → v_ends.toInt ≤ 120 → 0 ≤ v_at.toInt → v_at.toInt ≤ v_ends.toInt → 0 ≤ v_opened.toInt → v_opened.toInt ≤ 6 → v_fault.toInt < 0 → K ≤ v_opened.toInt → wp (go v_base v_at v_ends v_fault v_opened v_tape v_text v_names) (cu4 (fun (r : Int32) (wv_at : Int32) (wv_fault : Int32) (wv_opened : Int32) => v_at.toInt ≤ wv_at.toInt ∧ wv_at.toInt ≤ v_ends.toInt ∧ v_opened.toInt ≤ wv_opened.toInt ∧ wv_opened.toInt ≤ 6 ∧ ((wv_fault.toInt < 0 → wv_opened.toInt = v_opened.toInt)) ∧ ((0 ≤ v_fault.toInt → 0 ≤ wv_fault.toInt))))) : ∀ (n : Nat) (x1 : Int32) (v_base : Int32) (v_at : Int32) (v_ends : Int32) (v_fault : Int32) (v_opened : Int32) (v_tape : List Int32) (v_text : List Int32) (v_names : List Int32), v_tape.length = 120 → v_text.length = 120 → v_names.length = 6 → -1 ≤ v_base.toInt → v_base.toInt ≤ 0 → 0 ≤ v_ends.toInt → v_ends.toInt ≤ 120 → 0 ≤ v_at.toInt → v_at.toInt ≤ v_ends.toInt → 0 ≤ v_opened.toInt → v_opened.toInt ≤ 6 → (v_fault.toInt < 0 → K ≤ v_opened.toInt) → (v_ends.toInt - v_at.toInt).toNat < n → wp (fX9_either_5 N go n x1 v_base v_at v_ends v_fault v_opened v_tape v_text v_names) (cu4 (fun (r : Int32) (wv_at : Int32) (wv_fault : Int32) (wv_opened : Int32) => v_at.toInt ≤ wv_at.toInt ∧ wv_at.toInt ≤ v_ends.toInt ∧ v_opened.toInt ≤ wv_opened.toInt ∧ wv_opened.toInt ≤ 6 ∧ ((wv_fault.toInt < 0 → wv_opened.toInt = v_opened.toInt)) ∧ ((0 ≤ v_fault.toInt → 0 ≤ wv_fault.toInt)))) := by
  intro n
  induction n with
  | zero =>
    intro x1 v_base v_at v_ends v_fault v_opened v_tape v_text v_names h_0 h_1 h_2 h_3 h_4 h_5 h_6 h_7 h_8 h_9 h_10 h_11 hm
    exact absurd hm (by omega)
  | succ n ih =>
    intro x1 v_base v_at v_ends v_fault v_opened v_tape v_text v_names h_0 h_1 h_2 h_3 h_4 h_5 h_6 h_7 h_8 h_9 h_10 h_11 hm
    refine wp_of (uf_X9_either_5 _ _ _ _ _ _ _ _ _ _ _ _) ?_
    have n_1 : (124 : Int32).toInt = 124 := by decide
    refine wp_bd2 (sf_X9_takes hN h_0 h_1 h_3 h_4 h_5 h_6 h_7 h_8 (by omega)) (fun r_6 w_7 q_2 => ?_)
    rcases q_2 with ⟨rfl, q_2⟩ | ⟨rfl, q_2⟩
    ·
      refine wp_ifn (by decide) ?_
      refine wp_bd4 (sf_X9_both hN h_0 h_1 h_2 h_3 h_4 h_5 h_6 (by omega) (by omega) h_9 h_10 (by omega) (by omega) hgo) (fun r_10 w_11 w_12 w_13 ⟨q_3, q_4, q_5, q_6, q_7, q_8⟩ => ?_)
      have n_10 : (0 : Int32).toInt = 0 := by decide
      refine wp_if (fun c_9 => ?_) (fun c_9 => ?_)
      ·
        have dc_9 := i_eq c_9
        refine wp_if (fun c_11 => ?_) (fun c_11 => ?_)
        ·
          have dc_11 := i_eq c_11
          refine wp_of (uf_X9_either_32 _ _ _ _ _ _ _ _ _ _ _ _) ?_
          refine wp_cu4 (ih _ _ _ _ _ _ _ _ _ h_0 h_1 h_2 h_3 h_4 h_5 h_6 (by omega) q_4 (by omega) q_6 (by omega) (by omega)) (fun z_r z_wv_at z_wv_fault z_wv_opened ⟨q_12, q_13, q_14, q_15, q_16, q_17⟩ => ?_)
          exact ⟨(by omega), (by omega), (by omega), (by omega), (by omega), (by omega)⟩
        ·
          have dc_11 := i_ne c_11
          refine wp_of (uf_X9_either_27 _ _ _ _ _ _ _ _ _ _ _) ?_
          refine wp_of (uf_X9_either_32 _ _ _ _ _ _ _ _ _ _ _ _) ?_
          refine wp_cu4 (ih _ _ _ _ _ _ _ _ _ h_0 h_1 h_2 h_3 h_4 h_5 h_6 (by omega) q_4 (by omega) q_6 (by omega) (by omega)) (fun z_r__18 z_wv_at__19 z_wv_fault__20 z_wv_opened__21 ⟨q_22, q_23, q_24, q_25, q_26, q_27⟩ => ?_)
          exact ⟨(by omega), (by omega), (by omega), (by omega), (by omega), (by omega)⟩
      ·
        have dc_9 := i_ne c_9
        refine wp_of (uf_X9_either_27 _ _ _ _ _ _ _ _ _ _ _) ?_
        refine wp_of (uf_X9_either_32 _ _ _ _ _ _ _ _ _ _ _ _) ?_
        refine wp_cu4 (ih _ _ _ _ _ _ _ _ _ h_0 h_1 h_2 h_3 h_4 h_5 h_6 (by omega) q_4 (by omega) q_6 (by omega) (by omega)) (fun z_r__28 z_wv_at__29 z_wv_fault__30 z_wv_opened__31 ⟨q_32, q_33, q_34, q_35, q_36, q_37⟩ => ?_)
        exact ⟨(by omega), (by omega), (by omega), (by omega), (by omega), (by omega)⟩
    ·
      refine wp_ifp (by decide) ?_
      exact wp_so4 ⟨(by omega), (by omega), (by omega), h_10, (by omega), (by omega)⟩

theorem uf_X9_either (N : Nat) (go : Int32 → Int32 → Int32 → Int32 → Int32 → List Int32 → List Int32 → List Int32 → Option (Int32 × Int32 × Int32 × Int32)) (v_base : Int32) (v_at : Int32) (v_ends : Int32) (v_fault : Int32) (v_opened : Int32) (v_tape : List Int32) (v_text : List Int32) (v_names : List Int32) : fX9_either N go v_base v_at v_ends v_fault v_opened v_tape v_text v_names = mm_bd4 (fX9_both N go v_base v_at v_ends v_fault v_opened v_tape v_text v_names) (fun (r_1 : Int32) (w_2 : Int32) (w_3 : Int32) (w_4 : Int32) =>
    fX9_either_5 N go N r_1 v_base w_2 v_ends w_3 w_4 v_tape v_text v_names) := rfl

set_option maxHeartbeats 4000000 in
set_option maxRecDepth 20000 in
theorem sf_X9_either {N : Nat} (hN : 700 ≤ N) {K : Int} {go : Int32 → Int32 → Int32 → Int32 → Int32 → List Int32 → List Int32 → List Int32 → Option (Int32 × Int32 × Int32 × Int32)} {v_base : Int32} {v_at : Int32} {v_ends : Int32} {v_fault : Int32} {v_opened : Int32} {v_tape : List Int32} {v_text : List Int32} {v_names : List Int32} (h_0 : v_tape.length = 120) (h_1 : v_text.length = 120) (h_2 : v_names.length = 6) (h_3 : -1 ≤ v_base.toInt) (h_4 : v_base.toInt ≤ 0) (h_5 : 0 ≤ v_ends.toInt) (h_6 : v_ends.toInt ≤ 120) (h_7 : 0 ≤ v_at.toInt) (h_8 : v_at.toInt ≤ v_ends.toInt) (h_9 : 0 ≤ v_opened.toInt) (h_10 : v_opened.toInt ≤ 6) (h_11 : v_fault.toInt < 0) (h_12 : K ≤ v_opened.toInt) (hgo : ∀ (v_base : Int32) (v_at : Int32) (v_ends : Int32) (v_fault : Int32) (v_opened : Int32) (v_tape : List Int32) (v_text : List Int32) (v_names : List Int32), v_tape.length = 120 → v_text.length = 120 → v_names.length = 6 → -1 ≤ v_base.toInt → v_base.toInt ≤ 0 → 0 ≤ v_ends.toInt → v_ends.toInt ≤ 120 → 0 ≤ v_at.toInt → v_at.toInt ≤ v_ends.toInt → 0 ≤ v_opened.toInt → v_opened.toInt ≤ 6 → v_fault.toInt < 0 → K ≤ v_opened.toInt → wp (go v_base v_at v_ends v_fault v_opened v_tape v_text v_names) (cu4 (fun (r : Int32) (wv_at : Int32) (wv_fault : Int32) (wv_opened : Int32) => v_at.toInt ≤ wv_at.toInt ∧ wv_at.toInt ≤ v_ends.toInt ∧ v_opened.toInt ≤ wv_opened.toInt ∧ wv_opened.toInt ≤ 6 ∧ ((wv_fault.toInt < 0 → wv_opened.toInt = v_opened.toInt)) ∧ ((0 ≤ v_fault.toInt → 0 ≤ wv_fault.toInt))))) : wp (fX9_either N go v_base v_at v_ends v_fault v_opened v_tape v_text v_names) (cu4 (fun (r : Int32) (wv_at : Int32) (wv_fault : Int32) (wv_opened : Int32) => v_at.toInt ≤ wv_at.toInt ∧ wv_at.toInt ≤ v_ends.toInt ∧ v_opened.toInt ≤ wv_opened.toInt ∧ wv_opened.toInt ≤ 6 ∧ ((wv_fault.toInt < 0 → wv_opened.toInt = v_opened.toInt)) ∧ ((0 ≤ v_fault.toInt → 0 ≤ wv_fault.toInt)))) := by
  refine wp_of (uf_X9_either _ _ _ _ _ _ _ _ _ _) ?_
  refine wp_bd4 (sf_X9_both hN h_0 h_1 h_2 h_3 h_4 h_5 h_6 h_7 h_8 h_9 h_10 h_11 h_12 hgo) (fun r_1 w_2 w_3 w_4 ⟨q_1, q_2, q_3, q_4, q_5, q_6⟩ => ?_)
  refine wp_cu4 (sf_X9_either_5 hN hgo _ _ _ _ _ _ _ _ _ _ h_0 h_1 h_2 h_3 h_4 h_5 h_6 (by omega) q_2 (by omega) q_4 (by omega) (by omega)) (fun z_r z_wv_at z_wv_fault z_wv_opened ⟨q_7, q_8, q_9, q_10, q_11, q_12⟩ => ?_)
  exact ⟨(by omega), (by omega), (by omega), (by omega), (by omega), (by omega)⟩

theorem uf_X9_one_176 (N : Nat) (go : Int32 → Int32 → Int32 → Int32 → Int32 → List Int32 → List Int32 → List Int32 → Option (Int32 × Int32 × Int32 × Int32)) (n : Nat) (x3 : Int32) (x4 : Int32) (v_base : Int32) (v_at : Int32) (v_ends : Int32) (v_fault : Int32) (v_opened : Int32) (v_tape : List Int32) (v_text : List Int32) (v_names : List Int32) : fX9_one_176 N go (n + 1) x3 x4 v_base v_at v_ends v_fault v_opened v_tape v_text v_names = 
    if (4 : Int32) ≤ x4 then
    (fX9_one_229 N go x3 x4 v_base v_at v_ends v_fault v_opened v_tape v_text v_names)
    else (mm_bd1 (fX9_byteAt N v_base v_at v_ends v_tape v_text) (fun (r_13 : Int32) =>
    if r_13 < (48 : Int32) then
    (fX9_one_229 N go x3 x4 v_base v_at v_ends v_fault v_opened v_tape v_text v_names)
    else (mm_bd1 (fX9_byteAt N v_base v_at v_ends v_tape v_text) (fun (r_16 : Int32) =>
    if (57 : Int32) < r_16 then
    (fX9_one_229 N go x3 x4 v_base v_at v_ends v_fault v_opened v_tape v_text v_names)
    else (mm_bd1 (fX9_byteAt N v_base v_at v_ends v_tape v_text) (fun (r_19 : Int32) =>
    mm_nm (((((10 : Int32) * x3) + r_19) - (48 : Int32))) (fun (y_21 : Int32) =>
    mm_nm (x4 + (1 : Int32)) (fun (y_22 : Int32) =>
    mm_nm ((v_at + (1 : Int32))) (fun (y_23 : Int32) =>
    fX9_one_176 N go n y_21 y_22 v_base y_23 v_ends v_fault v_opened v_tape v_text v_names))))))))) := rfl

theorem uf_X9_one_229 (N : Nat) (go : Int32 → Int32 → Int32 → Int32 → Int32 → List Int32 → List Int32 → List Int32 → Option (Int32 × Int32 × Int32 × Int32)) (x3 : Int32) (x4 : Int32) (v_base : Int32) (v_at : Int32) (v_ends : Int32) (v_fault : Int32) (v_opened : Int32) (v_tape : List Int32) (v_text : List Int32) (v_names : List Int32) : fX9_one_229 N go x3 x4 v_base v_at v_ends v_fault v_opened v_tape v_text v_names = if x4 = 0 then
    (mm_bd2 (fX9_wrong N v_at v_fault) (fun (r_25 : Int32) (w_26 : Int32) =>
    some (r_25, v_at, w_26, v_opened)))
    else (some (x3, v_at, v_fault, v_opened)) := rfl

set_option maxHeartbeats 4000000 in
set_option maxRecDepth 20000 in
theorem sf_X9_one_176 {N : Nat} (hN : 700 ≤ N) {K : Int} {go : Int32 → Int32 → Int32 → Int32 → Int32 → List Int32 → List Int32 → List Int32 → Option (Int32 × Int32 × Int32 × Int32)} (hgo : ∀ (v_base : Int32) (v_at : Int32) (v_ends : Int32) (v_fault : Int32) (v_opened : Int32) (v_tape : List Int32) (v_text : List Int32) (v_names : List Int32), v_tape.length = 120 → v_text.length = 120 → v_names.length = 6 → -1 ≤ v_base.toInt → v_base.toInt ≤ 0 → 0 ≤ v_ends.toInt → v_ends.toInt ≤ 120 → 0 ≤ v_at.toInt → v_at.toInt ≤ v_ends.toInt → 0 ≤ v_opened.toInt → v_opened.toInt ≤ 6 → v_fault.toInt < 0 → K ≤ v_opened.toInt → wp (go v_base v_at v_ends v_fault v_opened v_tape v_text v_names) (cu4 (fun (r : Int32) (wv_at : Int32) (wv_fault : Int32) (wv_opened : Int32) => v_at.toInt ≤ wv_at.toInt ∧ wv_at.toInt ≤ v_ends.toInt ∧ v_opened.toInt ≤ wv_opened.toInt ∧ wv_opened.toInt ≤ 6 ∧ ((wv_fault.toInt < 0 → wv_opened.toInt = v_opened.toInt)) ∧ ((0 ≤ v_fault.toInt → 0 ≤ wv_fault.toInt))))) : ∀ (n : Nat) (x3 : Int32) (x4 : Int32) (v_base : Int32) (v_at : Int32) (v_ends : Int32) (v_fault : Int32) (v_opened : Int32) (v_tape : List Int32) (v_text : List Int32) (v_names : List Int32), v_tape.length = 120 → v_text.length = 120 → v_names.length = 6 → -1 ≤ v_base.toInt → v_base.toInt ≤ 0 → 0 ≤ v_ends.toInt → v_ends.toInt ≤ 120 → 0 ≤ v_at.toInt → v_at.toInt ≤ v_ends.toInt → 0 ≤ v_opened.toInt → v_opened.toInt ≤ 6 → v_fault.toInt < 0 → 0 ≤ x4.toInt → x4.toInt ≤ 4 → (4 - x4.toInt).toNat < n → wp (fX9_one_176 N go n x3 x4 v_base v_at v_ends v_fault v_opened v_tape v_text v_names) (cu4 (fun (r : Int32) (wv_at : Int32) (wv_fault : Int32) (wv_opened : Int32) => v_at.toInt ≤ wv_at.toInt ∧ wv_at.toInt ≤ v_ends.toInt ∧ v_opened.toInt ≤ wv_opened.toInt ∧ wv_opened.toInt ≤ 6 ∧ ((wv_fault.toInt < 0 → wv_opened.toInt = v_opened.toInt)) ∧ ((0 ≤ v_fault.toInt → 0 ≤ wv_fault.toInt)))) := by
  intro n
  induction n with
  | zero =>
    intro x3 x4 v_base v_at v_ends v_fault v_opened v_tape v_text v_names h_0 h_1 h_2 h_3 h_4 h_5 h_6 h_7 h_8 h_9 h_10 h_11 h_12 h_13 hm
    exact absurd hm (by omega)
  | succ n ih =>
    intro x3 x4 v_base v_at v_ends v_fault v_opened v_tape v_text v_names h_0 h_1 h_2 h_3 h_4 h_5 h_6 h_7 h_8 h_9 h_10 h_11 h_12 h_13 hm
    refine wp_of (uf_X9_one_176 _ _ _ _ _ _ _ _ _ _ _ _ _) ?_
    have n_2 : (4 : Int32).toInt = 4 := by decide
    refine wp_if (fun c_1 => ?_) (fun c_1 => ?_)
    ·
      have dc_1 := i_le c_1
      refine wp_of (uf_X9_one_229 _ _ _ _ _ _ _ _ _ _ _ _) ?_
      have n_4 : (0 : Int32).toInt = 0 := by decide
      refine wp_if (fun c_3 => ?_) (fun c_3 => ?_)
      ·
        have dc_3 := i_eq c_3
        refine wp_bd2 (sf_X9_wrong hN h_7) (fun r_25 w_26 q_5 => ?_)
        exact wp_so4 ⟨(by omega), h_8, (by omega), h_10, (by omega), (by omega)⟩
      ·
        have dc_3 := i_ne c_3
        exact wp_so4 ⟨(by omega), h_8, (by omega), h_10, (by omega), (by omega)⟩
    ·
      have dc_1 := i_nle c_1
      refine wp_bd1 (sf_X9_byteAt hN h_0 h_1 h_3 h_4 h_5 h_6 h_7 h_8) (fun r_13 q_6 => ?_)
      have n_8 : (48 : Int32).toInt = 48 := by decide
      refine wp_if (fun c_7 => ?_) (fun c_7 => ?_)
      ·
        have dc_7 := i_lt c_7
        refine wp_of (uf_X9_one_229 _ _ _ _ _ _ _ _ _ _ _ _) ?_
        have n_10 : (0 : Int32).toInt = 0 := by decide
        refine wp_if (fun c_9 => ?_) (fun c_9 => ?_)
        ·
          have dc_9 := i_eq c_9
          refine wp_bd2 (sf_X9_wrong hN h_7) (fun r_25__11 w_26__12 q_13 => ?_)
          exact wp_so4 ⟨(by omega), h_8, (by omega), h_10, (by omega), (by omega)⟩
        ·
          have dc_9 := i_ne c_9
          exact wp_so4 ⟨(by omega), h_8, (by omega), h_10, (by omega), (by omega)⟩
      ·
        have dc_7 := i_nlt c_7
        refine wp_bd1 (sf_X9_byteAt hN h_0 h_1 h_3 h_4 h_5 h_6 h_7 h_8) (fun r_16 q_14 => ?_)
        have n_16 : (57 : Int32).toInt = 57 := by decide
        refine wp_if (fun c_15 => ?_) (fun c_15 => ?_)
        ·
          have dc_15 := i_lt c_15
          refine wp_of (uf_X9_one_229 _ _ _ _ _ _ _ _ _ _ _ _) ?_
          have n_18 : (0 : Int32).toInt = 0 := by decide
          refine wp_if (fun c_17 => ?_) (fun c_17 => ?_)
          ·
            have dc_17 := i_eq c_17
            refine wp_bd2 (sf_X9_wrong hN h_7) (fun r_25__19 w_26__20 q_21 => ?_)
            exact wp_so4 ⟨(by omega), h_8, (by omega), h_10, (by omega), (by omega)⟩
          ·
            have dc_17 := i_ne c_17
            exact wp_so4 ⟨(by omega), h_8, (by omega), h_10, (by omega), (by omega)⟩
        ·
          have dc_15 := i_nlt c_15
          refine wp_bd1 (sf_X9_byteAt hN h_0 h_1 h_3 h_4 h_5 h_6 h_7 h_8) (fun r_19 q_22 => ?_)
          refine wp_nm (fun y_21 _ => ?_)
          have n_23 : (1 : Int32).toInt = 1 := by decide
          refine wp_nm (fun y_22 h_y_22 => ?_)
          have e_24 := i_addE h_y_22.symm (by omega) (by omega)
          refine wp_nm (fun y_23 h_y_23 => ?_)
          have e_25 := i_addE h_y_23.symm (by omega) (by omega)
          refine wp_cu4 (ih _ _ _ _ _ _ _ _ _ _ h_0 h_1 h_2 h_3 h_4 h_5 h_6 (by omega) (by omega) h_9 h_10 h_11 (by omega) (by omega) (by omega)) (fun z_r z_wv_at z_wv_fault z_wv_opened ⟨q_26, q_27, q_28, q_29, q_30, q_31⟩ => ?_)
          exact ⟨(by omega), (by omega), (by omega), (by omega), (by omega), (by omega)⟩

theorem uf_X9_one (N : Nat) (M : Nat) (z0 : Int32) (z1 : Int32) (z2 : Int32) (z3 : Int32) (z4 : Int32) (z5 : List Int32) (z6 : List Int32) (z7 : List Int32) : fX9_one N (M + 1) z0 z1 z2 z3 z4 z5 z6 z7 = (fX9_oneo N (fX9_one N M)) z0 z1 z2 z3 z4 z5 z6 z7 := rfl

theorem uf_X9_one_104 (N : Nat) (go : Int32 → Int32 → Int32 → Int32 → Int32 → List Int32 → List Int32 → List Int32 → Option (Int32 × Int32 × Int32 × Int32)) (x1 : Int32) (x2 : Int32) (v_base : Int32) (v_at : Int32) (v_ends : Int32) (v_fault : Int32) (v_opened : Int32) (v_tape : List Int32) (v_text : List Int32) (v_names : List Int32) : fX9_one_104 N go x1 x2 v_base v_at v_ends v_fault v_opened v_tape v_text v_names = mm_nm ((v_opened - (1 : Int32))) (fun (y_53 : Int32) =>
    if x1 = (40 : Int32) then
    (some (x2, v_at, v_fault, y_53))
    else (if x1 = (45 : Int32) then
    (some ((-x2), v_at, v_fault, y_53))
    else (if x2 = 0 then
    (some ((1 : Int32), v_at, v_fault, y_53))
    else (some ((0 : Int32), v_at, v_fault, y_53))))) := rfl

theorem uf_X9_one_32 (N : Nat) (go : Int32 → Int32 → Int32 → Int32 → Int32 → List Int32 → List Int32 → List Int32 → Option (Int32 × Int32 × Int32 × Int32)) (x1 : Int32) (v_base : Int32) (v_at : Int32) (v_ends : Int32) (v_fault : Int32) (v_opened : Int32) (v_tape : List Int32) (v_text : List Int32) (v_names : List Int32) : fX9_one_32 N go x1 v_base v_at v_ends v_fault v_opened v_tape v_text v_names = if v_opened = (6 : Int32) then
    (mm_bd2 (fX9_wrong N v_at v_fault) (fun (r_42 : Int32) (w_43 : Int32) =>
    some (r_42, v_at, w_43, v_opened)))
    else (mm_nm ((v_opened + (1 : Int32))) (fun (y_29 : Int32) =>
    mm_nm ((v_at + (1 : Int32))) (fun (y_30 : Int32) =>
    if x1 = (40 : Int32) then
    (mm_bd4 (fX9_either N go v_base y_30 v_ends v_fault y_29 v_tape v_text v_names) (fun (r_37 : Int32) (w_38 : Int32) (w_39 : Int32) (w_40 : Int32) =>
    fX9_one_83 N go x1 r_37 v_base w_38 v_ends w_39 w_40 v_tape v_text v_names))
    else (mm_bd4 (go v_base y_30 v_ends v_fault y_29 v_tape v_text v_names) (fun (r_32 : Int32) (w_33 : Int32) (w_34 : Int32) (w_35 : Int32) =>
    fX9_one_83 N go x1 r_32 v_base w_33 v_ends w_34 w_35 v_tape v_text v_names))))) := rfl

theorem uf_X9_one_83 (N : Nat) (go : Int32 → Int32 → Int32 → Int32 → Int32 → List Int32 → List Int32 → List Int32 → Option (Int32 × Int32 × Int32 × Int32)) (x1 : Int32) (s0 : Int32) (v_base : Int32) (v_at : Int32) (v_ends : Int32) (v_fault : Int32) (v_opened : Int32) (v_tape : List Int32) (v_text : List Int32) (v_names : List Int32) : fX9_one_83 N go x1 s0 v_base v_at v_ends v_fault v_opened v_tape v_text v_names = if x1 = (40 : Int32) then
    (mm_bd2 (fX9_takes N (41 : Int32) v_base v_at v_ends v_fault v_tape v_text) (fun (r_46 : Bool) (w_47 : Int32) =>
    if r_46 = false then
    (mm_bd2 (fX9_wrong N w_47 v_fault) (fun (r_50 : Int32) (w_51 : Int32) =>
    some (r_50, w_47, w_51, v_opened)))
    else (fX9_one_104 N go x1 s0 v_base w_47 v_ends v_fault v_opened v_tape v_text v_names)))
    else (fX9_one_104 N go x1 s0 v_base v_at v_ends v_fault v_opened v_tape v_text v_names) := rfl

theorem uf_X9_oneo (N : Nat) (go : Int32 → Int32 → Int32 → Int32 → Int32 → List Int32 → List Int32 → List Int32 → Option (Int32 × Int32 × Int32 × Int32)) (v_base : Int32) (v_at : Int32) (v_ends : Int32) (v_fault : Int32) (v_opened : Int32) (v_tape : List Int32) (v_text : List Int32) (v_names : List Int32) : fX9_oneo N go v_base v_at v_ends v_fault v_opened v_tape v_text v_names = if v_fault < 0 then
    (mm_bd1 (fX9_byteAt N v_base v_at v_ends v_tape v_text) (fun (r_2 : Int32) =>
    if r_2 = (33 : Int32) then
    (fX9_one_32 N go r_2 v_base v_at v_ends v_fault v_opened v_tape v_text v_names)
    else (if r_2 = (45 : Int32) then
    (fX9_one_32 N go r_2 v_base v_at v_ends v_fault v_opened v_tape v_text v_names)
    else (if r_2 = (40 : Int32) then
    (fX9_one_32 N go r_2 v_base v_at v_ends v_fault v_opened v_tape v_text v_names)
    else (mm_bd1 (fX9_nameOf N r_2) (fun (r_7 : Int32) =>
    if r_7 < 0 then
    (fX9_one_176 N go N (0 : Int32) (0 : Int32) v_base v_at v_ends v_fault v_opened v_tape v_text v_names)
    else (mm_nm ((v_at + (1 : Int32))) (fun (y_10 : Int32) =>
    mm_ck (mm_inb r_7 v_names.length) (some ((mm_ig v_names r_7), y_10, v_fault, v_opened))))))))))
    else (some ((0 : Int32), v_at, v_fault, v_opened)) := rfl

set_option maxHeartbeats 4000000 in
set_option maxRecDepth 20000 in
theorem sf_X9_oneo {N : Nat} (hN : 700 ≤ N) {K : Int} {go : Int32 → Int32 → Int32 → Int32 → Int32 → List Int32 → List Int32 → List Int32 → Option (Int32 × Int32 × Int32 × Int32)} {v_base : Int32} {v_at : Int32} {v_ends : Int32} {v_fault : Int32} {v_opened : Int32} {v_tape : List Int32} {v_text : List Int32} {v_names : List Int32} (h_0 : v_tape.length = 120) (h_1 : v_text.length = 120) (h_2 : v_names.length = 6) (h_3 : -1 ≤ v_base.toInt) (h_4 : v_base.toInt ≤ 0) (h_5 : 0 ≤ v_ends.toInt) (h_6 : v_ends.toInt ≤ 120) (h_7 : 0 ≤ v_at.toInt) (h_8 : v_at.toInt ≤ v_ends.toInt) (h_9 : 0 ≤ v_opened.toInt) (h_10 : v_opened.toInt ≤ 6) (h_11 : v_fault.toInt < 0) (hK : K ≤ v_opened.toInt + 1) (hgo : ∀ (v_base : Int32) (v_at : Int32) (v_ends : Int32) (v_fault : Int32) (v_opened : Int32) (v_tape : List Int32) (v_text : List Int32) (v_names : List Int32), v_tape.length = 120 → v_text.length = 120 → v_names.length = 6 → -1 ≤ v_base.toInt → v_base.toInt ≤ 0 → 0 ≤ v_ends.toInt → v_ends.toInt ≤ 120 → 0 ≤ v_at.toInt → v_at.toInt ≤ v_ends.toInt → 0 ≤ v_opened.toInt → v_opened.toInt ≤ 6 → v_fault.toInt < 0 → K ≤ v_opened.toInt → wp (go v_base v_at v_ends v_fault v_opened v_tape v_text v_names) (cu4 (fun (r : Int32) (wv_at : Int32) (wv_fault : Int32) (wv_opened : Int32) => v_at.toInt ≤ wv_at.toInt ∧ wv_at.toInt ≤ v_ends.toInt ∧ v_opened.toInt ≤ wv_opened.toInt ∧ wv_opened.toInt ≤ 6 ∧ ((wv_fault.toInt < 0 → wv_opened.toInt = v_opened.toInt)) ∧ ((0 ≤ v_fault.toInt → 0 ≤ wv_fault.toInt))))) : wp (fX9_oneo N go v_base v_at v_ends v_fault v_opened v_tape v_text v_names) (cu4 (fun (r : Int32) (wv_at : Int32) (wv_fault : Int32) (wv_opened : Int32) => v_at.toInt ≤ wv_at.toInt ∧ wv_at.toInt ≤ v_ends.toInt ∧ v_opened.toInt ≤ wv_opened.toInt ∧ wv_opened.toInt ≤ 6 ∧ ((wv_fault.toInt < 0 → wv_opened.toInt = v_opened.toInt)) ∧ ((0 ≤ v_fault.toInt → 0 ≤ wv_fault.toInt)))) := by
  refine wp_of (uf_X9_oneo _ _ _ _ _ _ _ _ _ _) ?_
  have n_2 : (0 : Int32).toInt = 0 := by decide
  refine wp_if (fun c_1 => ?_) (fun c_1 => ?_)
  ·
    have dc_1 := i_lt c_1
    refine wp_bd1 (sf_X9_byteAt hN h_0 h_1 h_3 h_4 h_5 h_6 h_7 h_8) (fun r_2 q_3 => ?_)
    have n_5 : (33 : Int32).toInt = 33 := by decide
    refine wp_if (fun c_4 => ?_) (fun c_4 => ?_)
    ·
      have dc_4 := i_eq c_4
      refine wp_of (uf_X9_one_32 _ _ _ _ _ _ _ _ _ _ _) ?_
      have n_7 : (6 : Int32).toInt = 6 := by decide
      refine wp_if (fun c_6 => ?_) (fun c_6 => ?_)
      ·
        have dc_6 := i_eq c_6
        refine wp_bd2 (sf_X9_wrong hN h_7) (fun r_42 w_43 q_8 => ?_)
        exact wp_so4 ⟨(by omega), h_8, (by omega), h_10, (by omega), (by omega)⟩
      ·
        have dc_6 := i_ne c_6
        have n_9 : (1 : Int32).toInt = 1 := by decide
        refine wp_nm (fun y_29 h_y_29 => ?_)
        have e_10 := i_addE h_y_29.symm (by omega) (by omega)
        refine wp_nm (fun y_30 h_y_30 => ?_)
        have e_11 := i_addE h_y_30.symm (by omega) (by omega)
        have n_13 : (40 : Int32).toInt = 40 := by decide
        refine wp_if (fun c_12 => ?_) (fun c_12 => ?_)
        ·
          have dc_12 := i_eq c_12
          refine wp_bd4 (sf_X9_either hN h_0 h_1 h_2 h_3 h_4 h_5 h_6 (by omega) (by omega) (by omega) (by omega) h_11 (by omega) hgo) (fun r_37 w_38 w_39 w_40 ⟨q_14, q_15, q_16, q_17, q_18, q_19⟩ => ?_)
          refine wp_of (uf_X9_one_83 _ _ _ _ _ _ _ _ _ _ _ _) ?_
          refine wp_ifp c_12 ?_
          have n_20 : (41 : Int32).toInt = 41 := by decide
          refine wp_bd2 (sf_X9_takes hN h_0 h_1 h_3 h_4 h_5 h_6 (by omega) q_15 (by omega)) (fun r_46 w_47 q_21 => ?_)
          rcases q_21 with ⟨rfl, q_21⟩ | ⟨rfl, q_21⟩
          ·
            refine wp_ifn (by decide) ?_
            refine wp_of (uf_X9_one_104 _ _ _ _ _ _ _ _ _ _ _ _) ?_
            refine wp_nm (fun y_53 h_y_53 => ?_)
            have e_22 := i_subE h_y_53.symm (by omega) (by omega)
            refine wp_ifp c_12 ?_
            exact wp_so4 ⟨(by omega), (by omega), (by omega), (by omega), (by omega), q_19⟩
          ·
            refine wp_ifp (by decide) ?_
            refine wp_bd2 (sf_X9_wrong hN (by omega)) (fun r_50 w_51 q_23 => ?_)
            exact wp_so4 ⟨(by omega), (by omega), (by omega), q_17, (by omega), (by omega)⟩
        ·
          have dc_12 := i_ne c_12
          refine wp_bd4 (hgo _ _ _ _ _ _ _ _ h_0 h_1 h_2 h_3 h_4 h_5 h_6 (by omega) (by omega) (by omega) (by omega) h_11 (by omega)) (fun r_32 w_33 w_34 w_35 ⟨q_24, q_25, q_26, q_27, q_28, q_29⟩ => ?_)
          refine wp_of (uf_X9_one_83 _ _ _ _ _ _ _ _ _ _ _ _) ?_
          refine wp_ifn c_12 ?_
          refine wp_of (uf_X9_one_104 _ _ _ _ _ _ _ _ _ _ _ _) ?_
          refine wp_nm (fun y_53__30 h_y_53__30 => ?_)
          have e_31 := i_subE h_y_53__30.symm (by omega) (by omega)
          refine wp_ifn c_12 ?_
          have n_33 : (45 : Int32).toInt = 45 := by decide
          refine wp_if (fun c_32 => ?_) (fun c_32 => ?_)
          ·
            have dc_32 := i_eq c_32
            exact wp_so4 ⟨(by omega), q_25, (by omega), (by omega), (by omega), q_29⟩
          ·
            have dc_32 := i_ne c_32
            refine wp_if (fun c_34 => ?_) (fun c_34 => ?_)
            ·
              have dc_34 := i_eq c_34
              exact wp_so4 ⟨(by omega), q_25, (by omega), (by omega), (by omega), q_29⟩
            ·
              have dc_34 := i_ne c_34
              exact wp_so4 ⟨(by omega), q_25, (by omega), (by omega), (by omega), q_29⟩
    ·
      have dc_4 := i_ne c_4
      have n_36 : (45 : Int32).toInt = 45 := by decide
      refine wp_if (fun c_35 => ?_) (fun c_35 => ?_)
      ·
        have dc_35 := i_eq c_35
        refine wp_of (uf_X9_one_32 _ _ _ _ _ _ _ _ _ _ _) ?_
        have n_38 : (6 : Int32).toInt = 6 := by decide
        refine wp_if (fun c_37 => ?_) (fun c_37 => ?_)
        ·
          have dc_37 := i_eq c_37
          refine wp_bd2 (sf_X9_wrong hN h_7) (fun r_42__39 w_43__40 q_41 => ?_)
          exact wp_so4 ⟨(by omega), h_8, (by omega), h_10, (by omega), (by omega)⟩
        ·
          have dc_37 := i_ne c_37
          have n_43 : (1 : Int32).toInt = 1 := by decide
          refine wp_nm (fun y_29__42 h_y_29__42 => ?_)
          have e_44 := i_addE h_y_29__42.symm (by omega) (by omega)
          refine wp_nm (fun y_30__45 h_y_30__45 => ?_)
          have e_46 := i_addE h_y_30__45.symm (by omega) (by omega)
          have n_48 : (40 : Int32).toInt = 40 := by decide
          refine wp_if (fun c_47 => ?_) (fun c_47 => ?_)
          ·
            have dc_47 := i_eq c_47
            refine wp_bd4 (sf_X9_either hN h_0 h_1 h_2 h_3 h_4 h_5 h_6 (by omega) (by omega) (by omega) (by omega) h_11 (by omega) hgo) (fun r_37__49 w_38__50 w_39__51 w_40__52 ⟨q_53, q_54, q_55, q_56, q_57, q_58⟩ => ?_)
            refine wp_of (uf_X9_one_83 _ _ _ _ _ _ _ _ _ _ _ _) ?_
            refine wp_ifp c_47 ?_
            have n_59 : (41 : Int32).toInt = 41 := by decide
            refine wp_bd2 (sf_X9_takes hN h_0 h_1 h_3 h_4 h_5 h_6 (by omega) q_54 (by omega)) (fun r_46__60 w_47__61 q_62 => ?_)
            rcases q_62 with ⟨rfl, q_62⟩ | ⟨rfl, q_62⟩
            ·
              refine wp_ifn (by decide) ?_
              refine wp_of (uf_X9_one_104 _ _ _ _ _ _ _ _ _ _ _ _) ?_
              refine wp_nm (fun y_53__63 h_y_53__63 => ?_)
              have e_64 := i_subE h_y_53__63.symm (by omega) (by omega)
              refine wp_ifp c_47 ?_
              exact wp_so4 ⟨(by omega), (by omega), (by omega), (by omega), (by omega), q_58⟩
            ·
              refine wp_ifp (by decide) ?_
              refine wp_bd2 (sf_X9_wrong hN (by omega)) (fun r_50__65 w_51__66 q_67 => ?_)
              exact wp_so4 ⟨(by omega), (by omega), (by omega), q_56, (by omega), (by omega)⟩
          ·
            have dc_47 := i_ne c_47
            refine wp_bd4 (hgo _ _ _ _ _ _ _ _ h_0 h_1 h_2 h_3 h_4 h_5 h_6 (by omega) (by omega) (by omega) (by omega) h_11 (by omega)) (fun r_32__68 w_33__69 w_34__70 w_35__71 ⟨q_72, q_73, q_74, q_75, q_76, q_77⟩ => ?_)
            refine wp_of (uf_X9_one_83 _ _ _ _ _ _ _ _ _ _ _ _) ?_
            refine wp_ifn c_47 ?_
            refine wp_of (uf_X9_one_104 _ _ _ _ _ _ _ _ _ _ _ _) ?_
            refine wp_nm (fun y_53__78 h_y_53__78 => ?_)
            have e_79 := i_subE h_y_53__78.symm (by omega) (by omega)
            refine wp_ifn c_47 ?_
            refine wp_ifp c_35 ?_
            exact wp_so4 ⟨(by omega), q_73, (by omega), (by omega), (by omega), q_77⟩
      ·
        have dc_35 := i_ne c_35
        have n_81 : (40 : Int32).toInt = 40 := by decide
        refine wp_if (fun c_80 => ?_) (fun c_80 => ?_)
        ·
          have dc_80 := i_eq c_80
          refine wp_of (uf_X9_one_32 _ _ _ _ _ _ _ _ _ _ _) ?_
          have n_83 : (6 : Int32).toInt = 6 := by decide
          refine wp_if (fun c_82 => ?_) (fun c_82 => ?_)
          ·
            have dc_82 := i_eq c_82
            refine wp_bd2 (sf_X9_wrong hN h_7) (fun r_42__84 w_43__85 q_86 => ?_)
            exact wp_so4 ⟨(by omega), h_8, (by omega), h_10, (by omega), (by omega)⟩
          ·
            have dc_82 := i_ne c_82
            have n_88 : (1 : Int32).toInt = 1 := by decide
            refine wp_nm (fun y_29__87 h_y_29__87 => ?_)
            have e_89 := i_addE h_y_29__87.symm (by omega) (by omega)
            refine wp_nm (fun y_30__90 h_y_30__90 => ?_)
            have e_91 := i_addE h_y_30__90.symm (by omega) (by omega)
            refine wp_ifp c_80 ?_
            refine wp_bd4 (sf_X9_either hN h_0 h_1 h_2 h_3 h_4 h_5 h_6 (by omega) (by omega) (by omega) (by omega) h_11 (by omega) hgo) (fun r_37__92 w_38__93 w_39__94 w_40__95 ⟨q_96, q_97, q_98, q_99, q_100, q_101⟩ => ?_)
            refine wp_of (uf_X9_one_83 _ _ _ _ _ _ _ _ _ _ _ _) ?_
            refine wp_ifp c_80 ?_
            have n_102 : (41 : Int32).toInt = 41 := by decide
            refine wp_bd2 (sf_X9_takes hN h_0 h_1 h_3 h_4 h_5 h_6 (by omega) q_97 (by omega)) (fun r_46__103 w_47__104 q_105 => ?_)
            rcases q_105 with ⟨rfl, q_105⟩ | ⟨rfl, q_105⟩
            ·
              refine wp_ifn (by decide) ?_
              refine wp_of (uf_X9_one_104 _ _ _ _ _ _ _ _ _ _ _ _) ?_
              refine wp_nm (fun y_53__106 h_y_53__106 => ?_)
              have e_107 := i_subE h_y_53__106.symm (by omega) (by omega)
              refine wp_ifp c_80 ?_
              exact wp_so4 ⟨(by omega), (by omega), (by omega), (by omega), (by omega), q_101⟩
            ·
              refine wp_ifp (by decide) ?_
              refine wp_bd2 (sf_X9_wrong hN (by omega)) (fun r_50__108 w_51__109 q_110 => ?_)
              exact wp_so4 ⟨(by omega), (by omega), (by omega), q_99, (by omega), (by omega)⟩
        ·
          have dc_80 := i_ne c_80
          refine wp_bd1 (sf_X9_nameOf hN ) (fun r_7 ⟨q_111, q_112, q_113⟩ => ?_)
          refine wp_if (fun c_114 => ?_) (fun c_114 => ?_)
          ·
            have dc_114 := i_lt c_114
            refine wp_cu4 (sf_X9_one_176 hN hgo _ _ _ _ _ _ _ _ _ _ _ h_0 h_1 h_2 h_3 h_4 h_5 h_6 h_7 h_8 h_9 h_10 h_11 (by omega) (by omega) (by omega)) (fun z_r z_wv_at z_wv_fault z_wv_opened ⟨q_115, q_116, q_117, q_118, q_119, q_120⟩ => ?_)
            exact ⟨(by omega), (by omega), (by omega), (by omega), (by omega), (by omega)⟩
          ·
            have dc_114 := i_nlt c_114
            have n_121 : (1 : Int32).toInt = 1 := by decide
            refine wp_nm (fun y_10 h_y_10 => ?_)
            have e_122 := i_addE h_y_10.symm (by omega) (by omega)
            refine wp_ck (i_inb (by omega) (by omega)) ?_
            exact wp_so4 ⟨(by omega), (by omega), (by omega), h_10, (by omega), (by omega)⟩
  ·
    have dc_1 := i_nlt c_1
    exact wp_so4 ⟨(by omega), h_8, (by omega), h_10, (by omega), (by omega)⟩
set_option maxHeartbeats 4000000 in
set_option maxRecDepth 20000 in
theorem sf_X9_one {N : Nat} (hN : 700 ≤ N) : ∀ (M : Nat) (v_base : Int32) (v_at : Int32) (v_ends : Int32) (v_fault : Int32) (v_opened : Int32) (v_tape : List Int32) (v_text : List Int32) (v_names : List Int32), v_tape.length = 120 → v_text.length = 120 → v_names.length = 6 → -1 ≤ v_base.toInt → v_base.toInt ≤ 0 → 0 ≤ v_ends.toInt → v_ends.toInt ≤ 120 → 0 ≤ v_at.toInt → v_at.toInt ≤ v_ends.toInt → 0 ≤ v_opened.toInt → v_opened.toInt ≤ 6 → v_fault.toInt < 0 → 7 - (M : Int) ≤ v_opened.toInt → wp (fX9_one N M v_base v_at v_ends v_fault v_opened v_tape v_text v_names) (cu4 (fun (r : Int32) (wv_at : Int32) (wv_fault : Int32) (wv_opened : Int32) => v_at.toInt ≤ wv_at.toInt ∧ wv_at.toInt ≤ v_ends.toInt ∧ v_opened.toInt ≤ wv_opened.toInt ∧ wv_opened.toInt ≤ 6 ∧ ((wv_fault.toInt < 0 → wv_opened.toInt = v_opened.toInt)) ∧ ((0 ≤ v_fault.toInt → 0 ≤ wv_fault.toInt)))) := by
  intro M
  induction M with
  | zero =>
    intro v_base v_at v_ends v_fault v_opened v_tape v_text v_names h_0 h_1 h_2 h_3 h_4 h_5 h_6 h_7 h_8 h_9 h_10 h_11 hK
    exact absurd hK (by omega)
  | succ M ih =>
    intro v_base v_at v_ends v_fault v_opened v_tape v_text v_names h_0 h_1 h_2 h_3 h_4 h_5 h_6 h_7 h_8 h_9 h_10 h_11 hK
    rw [uf_X9_one]
    exact sf_X9_oneo (K := 7 - (M : Int)) hN h_0 h_1 h_2 h_3 h_4 h_5 h_6 h_7 h_8 h_9 h_10 h_11 (by omega) ih
set_option maxHeartbeats 4000000 in
set_option maxRecDepth 20000 in
theorem sf_X9_one_go {N : Nat} (hN : 700 ≤ N) : ∀ (v_base : Int32) (v_at : Int32) (v_ends : Int32) (v_fault : Int32) (v_opened : Int32) (v_tape : List Int32) (v_text : List Int32) (v_names : List Int32), v_tape.length = 120 → v_text.length = 120 → v_names.length = 6 → -1 ≤ v_base.toInt → v_base.toInt ≤ 0 → 0 ≤ v_ends.toInt → v_ends.toInt ≤ 120 → 0 ≤ v_at.toInt → v_at.toInt ≤ v_ends.toInt → 0 ≤ v_opened.toInt → v_opened.toInt ≤ 6 → v_fault.toInt < 0 → (0 : Int) ≤ v_opened.toInt → wp (fX9_one N 8 v_base v_at v_ends v_fault v_opened v_tape v_text v_names) (cu4 (fun (r : Int32) (wv_at : Int32) (wv_fault : Int32) (wv_opened : Int32) => v_at.toInt ≤ wv_at.toInt ∧ wv_at.toInt ≤ v_ends.toInt ∧ v_opened.toInt ≤ wv_opened.toInt ∧ wv_opened.toInt ≤ 6 ∧ ((wv_fault.toInt < 0 → wv_opened.toInt = v_opened.toInt)) ∧ ((0 ≤ v_fault.toInt → 0 ≤ wv_fault.toInt)))) := fun v_base v_at v_ends v_fault v_opened v_tape v_text v_names h_0 h_1 h_2 h_3 h_4 h_5 h_6 h_7 h_8 h_9 h_10 h_11 _ => sf_X9_one hN 8 v_base v_at v_ends v_fault v_opened v_tape v_text v_names h_0 h_1 h_2 h_3 h_4 h_5 h_6 h_7 h_8 h_9 h_10 h_11 (by omega)
set_option maxHeartbeats 4000000 in
set_option maxRecDepth 20000 in
theorem sf_X9_one_at {N : Nat} {M : Nat} (hN : 700 ≤ N) {v_base : Int32} {v_at : Int32} {v_ends : Int32} {v_fault : Int32} {v_opened : Int32} {v_tape : List Int32} {v_text : List Int32} {v_names : List Int32} (h_0 : v_tape.length = 120) (h_1 : v_text.length = 120) (h_2 : v_names.length = 6) (h_3 : -1 ≤ v_base.toInt) (h_4 : v_base.toInt ≤ 0) (h_5 : 0 ≤ v_ends.toInt) (h_6 : v_ends.toInt ≤ 120) (h_7 : 0 ≤ v_at.toInt) (h_8 : v_at.toInt ≤ v_ends.toInt) (h_9 : 0 ≤ v_opened.toInt) (h_10 : v_opened.toInt ≤ 6) (h_11 : v_fault.toInt < 0) (hK : 7 - (M : Int) ≤ v_opened.toInt) : wp (fX9_one N M v_base v_at v_ends v_fault v_opened v_tape v_text v_names) (cu4 (fun (r : Int32) (wv_at : Int32) (wv_fault : Int32) (wv_opened : Int32) => v_at.toInt ≤ wv_at.toInt ∧ wv_at.toInt ≤ v_ends.toInt ∧ v_opened.toInt ≤ wv_opened.toInt ∧ wv_opened.toInt ≤ 6 ∧ ((wv_fault.toInt < 0 → wv_opened.toInt = v_opened.toInt)) ∧ ((0 ≤ v_fault.toInt → 0 ≤ wv_fault.toInt)))) := sf_X9_one hN M v_base v_at v_ends v_fault v_opened v_tape v_text v_names h_0 h_1 h_2 h_3 h_4 h_5 h_6 h_7 h_8 h_9 h_10 h_11 hK

theorem uf_X9_workOut_33 (N : Nat) (n : Nat) (x3 : Int32) (x4 : Int32) (x5 : Int32) (v_base : Int32) (v_at : Int32) (v_ends : Int32) (v_fault : Int32) (v_opened : Int32) (v_tape : List Int32) (v_text : List Int32) (v_names : List Int32) : fX9_workOut_33 N (n + 1) x3 x4 x5 v_base v_at v_ends v_fault v_opened v_tape v_text v_names = 
    if x5 = 0 then
    (if 0 ≤ v_fault then
    (some (x4, v_base, v_at, v_ends, v_fault, v_opened))
    else (if v_ends ≤ v_at then
    (some (x4, v_base, v_at, v_ends, v_fault, v_opened))
    else (mm_bd2 (fX9_wrong N v_at v_fault) (fun (r_4 : Int32) (w_5 : Int32) =>
    some (r_4, v_base, v_at, v_ends, w_5, v_opened)))))
    else (mm_bd4 (fX9_either N (fX9_one N 8) v_base v_at v_ends v_fault v_opened v_tape v_text v_names) (fun (r_7 : Int32) (w_8 : Int32) (w_9 : Int32) (w_10 : Int32) =>
    mm_bd2 (fX9_takes N (63 : Int32) v_base w_8 v_ends w_9 v_tape v_text) (fun (r_12 : Bool) (w_13 : Int32) =>
    if r_12 = false then
    (fX9_workOut_74 N (fX9_workOut_33 N n) x3 x4 r_7 (1 : Int32) v_base w_13 v_ends w_9 w_10 v_tape v_text v_names)
    else (if r_7 = 0 then
    (fX9_workOut_66 N (fX9_workOut_33 N n) x3 x4 (0 : Int32) v_base w_13 v_ends w_9 w_10 v_tape v_text v_names)
    else (fX9_workOut_66 N (fX9_workOut_33 N n) x3 x4 (1 : Int32) v_base w_13 v_ends w_9 w_10 v_tape v_text v_names))))) := rfl

theorem uf_X9_workOut_66 (N : Nat) (k_33 : Int32 → Int32 → Int32 → Int32 → Int32 → Int32 → Int32 → Int32 → List Int32 → List Int32 → List Int32 → Option (Int32 × Int32 × Int32 × Int32 × Int32 × Int32)) (x3 : Int32) (x4 : Int32) (s0 : Int32) (v_base : Int32) (v_at : Int32) (v_ends : Int32) (v_fault : Int32) (v_opened : Int32) (v_tape : List Int32) (v_text : List Int32) (v_names : List Int32) : fX9_workOut_66 N k_33 x3 x4 s0 v_base v_at v_ends v_fault v_opened v_tape v_text v_names = mm_bd4 (fX9_either N (fX9_one N 8) v_base v_at v_ends v_fault v_opened v_tape v_text v_names) (fun (r_17 : Int32) (w_18 : Int32) (w_19 : Int32) (w_20 : Int32) =>
    fX9_workOut_74 N k_33 x3 x4 r_17 s0 v_base w_18 v_ends w_19 w_20 v_tape v_text v_names) := rfl

theorem uf_X9_workOut_74 (N : Nat) (k_33 : Int32 → Int32 → Int32 → Int32 → Int32 → Int32 → Int32 → Int32 → List Int32 → List Int32 → List Int32 → Option (Int32 × Int32 × Int32 × Int32 × Int32 × Int32)) (x3 : Int32) (x4 : Int32) (x6 : Int32) (x7 : Int32) (v_base : Int32) (v_at : Int32) (v_ends : Int32) (v_fault : Int32) (v_opened : Int32) (v_tape : List Int32) (v_text : List Int32) (v_names : List Int32) : fX9_workOut_74 N k_33 x3 x4 x6 x7 v_base v_at v_ends v_fault v_opened v_tape v_text v_names = if 0 ≤ v_fault then
    (fX9_workOut_96 N k_33 x3 x4 v_base v_at v_ends v_fault v_opened v_tape v_text v_names)
    else (if x7 = 0 then
    (fX9_workOut_96 N k_33 x3 x4 v_base v_at v_ends v_fault v_opened v_tape v_text v_names)
    else (if x3 = 0 then
    (fX9_workOut_96 N k_33 (1 : Int32) x6 v_base v_at v_ends v_fault v_opened v_tape v_text v_names)
    else (fX9_workOut_96 N k_33 x3 x4 v_base v_at v_ends v_fault v_opened v_tape v_text v_names))) := rfl

theorem uf_X9_workOut_96 (N : Nat) (k_33 : Int32 → Int32 → Int32 → Int32 → Int32 → Int32 → Int32 → Int32 → List Int32 → List Int32 → List Int32 → Option (Int32 × Int32 × Int32 × Int32 × Int32 × Int32)) (x3 : Int32) (x4 : Int32) (v_base : Int32) (v_at : Int32) (v_ends : Int32) (v_fault : Int32) (v_opened : Int32) (v_tape : List Int32) (v_text : List Int32) (v_names : List Int32) : fX9_workOut_96 N k_33 x3 x4 v_base v_at v_ends v_fault v_opened v_tape v_text v_names = mm_bd2 (fX9_takes N (59 : Int32) v_base v_at v_ends v_fault v_tape v_text) (fun (r_25 : Bool) (w_26 : Int32) =>
    k_33 x3 x4 (mm_b r_25) v_base w_26 v_ends v_fault v_opened v_tape v_text v_names) := rfl

set_option maxHeartbeats 4000000 in
set_option maxRecDepth 20000 in
theorem sf_X9_workOut_33 {N : Nat} (hN : 700 ≤ N)  : ∀ (n : Nat) (x3 : Int32) (x4 : Int32) (x5 : Int32) (v_base : Int32) (v_at : Int32) (v_ends : Int32) (v_fault : Int32) (v_opened : Int32) (v_tape : List Int32) (v_text : List Int32) (v_names : List Int32), v_tape.length = 120 → v_text.length = 120 → v_names.length = 6 → -1 ≤ v_base.toInt → v_base.toInt ≤ 0 → 0 ≤ v_ends.toInt → v_ends.toInt ≤ 120 → 0 ≤ v_at.toInt → v_at.toInt ≤ v_ends.toInt → 0 ≤ v_opened.toInt → v_opened.toInt ≤ 6 → (v_fault.toInt < 0 → v_opened.toInt = 0) → 0 ≤ x5.toInt → x5.toInt ≤ 1 → (¬ x5.toInt = 0 → v_fault.toInt < 0) → (v_ends.toInt - v_at.toInt + x5.toInt).toNat < n → wp (fX9_workOut_33 N n x3 x4 x5 v_base v_at v_ends v_fault v_opened v_tape v_text v_names) (cu6 (fun (r : Int32) (wv_base : Int32) (wv_at : Int32) (wv_ends : Int32) (wv_fault : Int32) (wv_opened : Int32) => True)) := by
  intro n
  induction n with
  | zero =>
    intro x3 x4 x5 v_base v_at v_ends v_fault v_opened v_tape v_text v_names h_0 h_1 h_2 h_3 h_4 h_5 h_6 h_7 h_8 h_9 h_10 h_11 h_12 h_13 h_14 hm
    exact absurd hm (by omega)
  | succ n ih =>
    intro x3 x4 x5 v_base v_at v_ends v_fault v_opened v_tape v_text v_names h_0 h_1 h_2 h_3 h_4 h_5 h_6 h_7 h_8 h_9 h_10 h_11 h_12 h_13 h_14 hm
    refine wp_of (uf_X9_workOut_33 _ _ _ _ _ _ _ _ _ _ _ _ _) ?_
    have n_2 : (0 : Int32).toInt = 0 := by decide
    refine wp_if (fun c_1 => ?_) (fun c_1 => ?_)
    ·
      have dc_1 := i_eq c_1
      refine wp_if (fun c_3 => ?_) (fun c_3 => ?_)
      ·
        have dc_3 := i_le c_3
        exact wp_so6 trivial
      ·
        have dc_3 := i_nle c_3
        refine wp_if (fun c_4 => ?_) (fun c_4 => ?_)
        ·
          have dc_4 := i_le c_4
          exact wp_so6 trivial
        ·
          have dc_4 := i_nle c_4
          refine wp_bd2 (sf_X9_wrong hN h_7) (fun r_4 w_5 q_5 => ?_)
          exact wp_so6 trivial
    ·
      have dc_1 := i_ne c_1
      refine wp_bd4 (sf_X9_either hN h_0 h_1 h_2 h_3 h_4 h_5 h_6 h_7 h_8 h_9 h_10 (by omega) (by omega) (sf_X9_one_go hN)) (fun r_7 w_8 w_9 w_10 ⟨q_6, q_7, q_8, q_9, q_10, q_11⟩ => ?_)
      have n_12 : (63 : Int32).toInt = 63 := by decide
      refine wp_bd2 (sf_X9_takes hN h_0 h_1 h_3 h_4 h_5 h_6 (by omega) q_7 (by omega)) (fun r_12 w_13 q_13 => ?_)
      rcases q_13 with ⟨rfl, q_13⟩ | ⟨rfl, q_13⟩
      ·
        refine wp_ifn (by decide) ?_
        refine wp_if (fun c_14 => ?_) (fun c_14 => ?_)
        ·
          have dc_14 := i_eq c_14
          refine wp_of (uf_X9_workOut_66 _ _ _ _ _ _ _ _ _ _ _ _ _) ?_
          refine wp_bd4 (sf_X9_either hN h_0 h_1 h_2 h_3 h_4 h_5 h_6 (by omega) (by omega) (by omega) q_9 (by omega) (by omega) (sf_X9_one_go hN)) (fun r_17 w_18 w_19 w_20 ⟨q_15, q_16, q_17, q_18, q_19, q_20⟩ => ?_)
          refine wp_of (uf_X9_workOut_74 _ _ _ _ _ _ _ _ _ _ _ _ _ _) ?_
          refine wp_if (fun c_21 => ?_) (fun c_21 => ?_)
          ·
            have dc_21 := i_le c_21
            refine wp_of (uf_X9_workOut_96 _ _ _ _ _ _ _ _ _ _ _ _) ?_
            have n_22 : (59 : Int32).toInt = 59 := by decide
            refine wp_bd2 (sf_X9_takes hN h_0 h_1 h_3 h_4 h_5 h_6 (by omega) q_16 (by omega)) (fun r_25 w_26 q_23 => ?_)
            rcases q_23 with ⟨rfl, q_23⟩ | ⟨rfl, q_23⟩
            ·
              generalize hz_z : (mm_b true) = z
              have e_24 : z.toInt = 1 := by rw [← hz_z]; decide
              exact ih _ _ _ _ _ _ _ _ _ _ _ h_0 h_1 h_2 h_3 h_4 h_5 h_6 (by omega) (by omega) (by omega) q_18 (by omega) (by omega) (by omega) (by omega) (by omega)
            ·
              generalize hz_z__25 : (mm_b false) = z__25
              have e_26 : z__25.toInt = 0 := by rw [← hz_z__25]; decide
              exact ih _ _ _ _ _ _ _ _ _ _ _ h_0 h_1 h_2 h_3 h_4 h_5 h_6 (by omega) (by omega) (by omega) q_18 (by omega) (by omega) (by omega) (by omega) (by omega)
          ·
            have dc_21 := i_nle c_21
            refine wp_ifp (by decide) ?_
            refine wp_of (uf_X9_workOut_96 _ _ _ _ _ _ _ _ _ _ _ _) ?_
            have n_27 : (59 : Int32).toInt = 59 := by decide
            refine wp_bd2 (sf_X9_takes hN h_0 h_1 h_3 h_4 h_5 h_6 (by omega) q_16 (by omega)) (fun r_25__28 w_26__29 q_30 => ?_)
            rcases q_30 with ⟨rfl, q_30⟩ | ⟨rfl, q_30⟩
            ·
              generalize hz_z__31 : (mm_b true) = z__31
              have e_32 : z__31.toInt = 1 := by rw [← hz_z__31]; decide
              exact ih _ _ _ _ _ _ _ _ _ _ _ h_0 h_1 h_2 h_3 h_4 h_5 h_6 (by omega) (by omega) (by omega) q_18 (by omega) (by omega) (by omega) (by omega) (by omega)
            ·
              generalize hz_z__33 : (mm_b false) = z__33
              have e_34 : z__33.toInt = 0 := by rw [← hz_z__33]; decide
              exact ih _ _ _ _ _ _ _ _ _ _ _ h_0 h_1 h_2 h_3 h_4 h_5 h_6 (by omega) (by omega) (by omega) q_18 (by omega) (by omega) (by omega) (by omega) (by omega)
        ·
          have dc_14 := i_ne c_14
          refine wp_of (uf_X9_workOut_66 _ _ _ _ _ _ _ _ _ _ _ _ _) ?_
          refine wp_bd4 (sf_X9_either hN h_0 h_1 h_2 h_3 h_4 h_5 h_6 (by omega) (by omega) (by omega) q_9 (by omega) (by omega) (sf_X9_one_go hN)) (fun r_17__35 w_18__36 w_19__37 w_20__38 ⟨q_39, q_40, q_41, q_42, q_43, q_44⟩ => ?_)
          refine wp_of (uf_X9_workOut_74 _ _ _ _ _ _ _ _ _ _ _ _ _ _) ?_
          refine wp_if (fun c_45 => ?_) (fun c_45 => ?_)
          ·
            have dc_45 := i_le c_45
            refine wp_of (uf_X9_workOut_96 _ _ _ _ _ _ _ _ _ _ _ _) ?_
            have n_46 : (59 : Int32).toInt = 59 := by decide
            refine wp_bd2 (sf_X9_takes hN h_0 h_1 h_3 h_4 h_5 h_6 (by omega) q_40 (by omega)) (fun r_25__47 w_26__48 q_49 => ?_)
            rcases q_49 with ⟨rfl, q_49⟩ | ⟨rfl, q_49⟩
            ·
              generalize hz_z__50 : (mm_b true) = z__50
              have e_51 : z__50.toInt = 1 := by rw [← hz_z__50]; decide
              exact ih _ _ _ _ _ _ _ _ _ _ _ h_0 h_1 h_2 h_3 h_4 h_5 h_6 (by omega) (by omega) (by omega) q_42 (by omega) (by omega) (by omega) (by omega) (by omega)
            ·
              generalize hz_z__52 : (mm_b false) = z__52
              have e_53 : z__52.toInt = 0 := by rw [← hz_z__52]; decide
              exact ih _ _ _ _ _ _ _ _ _ _ _ h_0 h_1 h_2 h_3 h_4 h_5 h_6 (by omega) (by omega) (by omega) q_42 (by omega) (by omega) (by omega) (by omega) (by omega)
          ·
            have dc_45 := i_nle c_45
            refine wp_ifn (by decide) ?_
            refine wp_if (fun c_54 => ?_) (fun c_54 => ?_)
            ·
              have dc_54 := i_eq c_54
              refine wp_of (uf_X9_workOut_96 _ _ _ _ _ _ _ _ _ _ _ _) ?_
              have n_55 : (59 : Int32).toInt = 59 := by decide
              refine wp_bd2 (sf_X9_takes hN h_0 h_1 h_3 h_4 h_5 h_6 (by omega) q_40 (by omega)) (fun r_25__56 w_26__57 q_58 => ?_)
              rcases q_58 with ⟨rfl, q_58⟩ | ⟨rfl, q_58⟩
              ·
                generalize hz_z__59 : (mm_b true) = z__59
                have e_60 : z__59.toInt = 1 := by rw [← hz_z__59]; decide
                exact ih _ _ _ _ _ _ _ _ _ _ _ h_0 h_1 h_2 h_3 h_4 h_5 h_6 (by omega) (by omega) (by omega) q_42 (by omega) (by omega) (by omega) (by omega) (by omega)
              ·
                generalize hz_z__61 : (mm_b false) = z__61
                have e_62 : z__61.toInt = 0 := by rw [← hz_z__61]; decide
                exact ih _ _ _ _ _ _ _ _ _ _ _ h_0 h_1 h_2 h_3 h_4 h_5 h_6 (by omega) (by omega) (by omega) q_42 (by omega) (by omega) (by omega) (by omega) (by omega)
            ·
              have dc_54 := i_ne c_54
              refine wp_of (uf_X9_workOut_96 _ _ _ _ _ _ _ _ _ _ _ _) ?_
              have n_63 : (59 : Int32).toInt = 59 := by decide
              refine wp_bd2 (sf_X9_takes hN h_0 h_1 h_3 h_4 h_5 h_6 (by omega) q_40 (by omega)) (fun r_25__64 w_26__65 q_66 => ?_)
              rcases q_66 with ⟨rfl, q_66⟩ | ⟨rfl, q_66⟩
              ·
                generalize hz_z__67 : (mm_b true) = z__67
                have e_68 : z__67.toInt = 1 := by rw [← hz_z__67]; decide
                exact ih _ _ _ _ _ _ _ _ _ _ _ h_0 h_1 h_2 h_3 h_4 h_5 h_6 (by omega) (by omega) (by omega) q_42 (by omega) (by omega) (by omega) (by omega) (by omega)
              ·
                generalize hz_z__69 : (mm_b false) = z__69
                have e_70 : z__69.toInt = 0 := by rw [← hz_z__69]; decide
                exact ih _ _ _ _ _ _ _ _ _ _ _ h_0 h_1 h_2 h_3 h_4 h_5 h_6 (by omega) (by omega) (by omega) q_42 (by omega) (by omega) (by omega) (by omega) (by omega)
      ·
        refine wp_ifp (by decide) ?_
        refine wp_of (uf_X9_workOut_74 _ _ _ _ _ _ _ _ _ _ _ _ _ _) ?_
        refine wp_if (fun c_71 => ?_) (fun c_71 => ?_)
        ·
          have dc_71 := i_le c_71
          refine wp_of (uf_X9_workOut_96 _ _ _ _ _ _ _ _ _ _ _ _) ?_
          have n_72 : (59 : Int32).toInt = 59 := by decide
          refine wp_bd2 (sf_X9_takes hN h_0 h_1 h_3 h_4 h_5 h_6 (by omega) (by omega) (by omega)) (fun r_25__73 w_26__74 q_75 => ?_)
          rcases q_75 with ⟨rfl, q_75⟩ | ⟨rfl, q_75⟩
          ·
            generalize hz_z__76 : (mm_b true) = z__76
            have e_77 : z__76.toInt = 1 := by rw [← hz_z__76]; decide
            exact ih _ _ _ _ _ _ _ _ _ _ _ h_0 h_1 h_2 h_3 h_4 h_5 h_6 (by omega) (by omega) (by omega) q_9 (by omega) (by omega) (by omega) (by omega) (by omega)
          ·
            generalize hz_z__78 : (mm_b false) = z__78
            have e_79 : z__78.toInt = 0 := by rw [← hz_z__78]; decide
            exact ih _ _ _ _ _ _ _ _ _ _ _ h_0 h_1 h_2 h_3 h_4 h_5 h_6 (by omega) (by omega) (by omega) q_9 (by omega) (by omega) (by omega) (by omega) (by omega)
        ·
          have dc_71 := i_nle c_71
          refine wp_ifn (by decide) ?_
          refine wp_if (fun c_80 => ?_) (fun c_80 => ?_)
          ·
            have dc_80 := i_eq c_80
            refine wp_of (uf_X9_workOut_96 _ _ _ _ _ _ _ _ _ _ _ _) ?_
            have n_81 : (59 : Int32).toInt = 59 := by decide
            refine wp_bd2 (sf_X9_takes hN h_0 h_1 h_3 h_4 h_5 h_6 (by omega) (by omega) (by omega)) (fun r_25__82 w_26__83 q_84 => ?_)
            rcases q_84 with ⟨rfl, q_84⟩ | ⟨rfl, q_84⟩
            ·
              generalize hz_z__85 : (mm_b true) = z__85
              have e_86 : z__85.toInt = 1 := by rw [← hz_z__85]; decide
              exact ih _ _ _ _ _ _ _ _ _ _ _ h_0 h_1 h_2 h_3 h_4 h_5 h_6 (by omega) (by omega) (by omega) q_9 (by omega) (by omega) (by omega) (by omega) (by omega)
            ·
              generalize hz_z__87 : (mm_b false) = z__87
              have e_88 : z__87.toInt = 0 := by rw [← hz_z__87]; decide
              exact ih _ _ _ _ _ _ _ _ _ _ _ h_0 h_1 h_2 h_3 h_4 h_5 h_6 (by omega) (by omega) (by omega) q_9 (by omega) (by omega) (by omega) (by omega) (by omega)
          ·
            have dc_80 := i_ne c_80
            refine wp_of (uf_X9_workOut_96 _ _ _ _ _ _ _ _ _ _ _ _) ?_
            have n_89 : (59 : Int32).toInt = 59 := by decide
            refine wp_bd2 (sf_X9_takes hN h_0 h_1 h_3 h_4 h_5 h_6 (by omega) (by omega) (by omega)) (fun r_25__90 w_26__91 q_92 => ?_)
            rcases q_92 with ⟨rfl, q_92⟩ | ⟨rfl, q_92⟩
            ·
              generalize hz_z__93 : (mm_b true) = z__93
              have e_94 : z__93.toInt = 1 := by rw [← hz_z__93]; decide
              exact ih _ _ _ _ _ _ _ _ _ _ _ h_0 h_1 h_2 h_3 h_4 h_5 h_6 (by omega) (by omega) (by omega) q_9 (by omega) (by omega) (by omega) (by omega) (by omega)
            ·
              generalize hz_z__95 : (mm_b false) = z__95
              have e_96 : z__95.toInt = 0 := by rw [← hz_z__95]; decide
              exact ih _ _ _ _ _ _ _ _ _ _ _ h_0 h_1 h_2 h_3 h_4 h_5 h_6 (by omega) (by omega) (by omega) q_9 (by omega) (by omega) (by omega) (by omega) (by omega)

theorem uf_X9_workOut (N : Nat) (x1 : Int32) (x2 : Int32) (v_base : Int32) (v_at : Int32) (v_ends : Int32) (v_fault : Int32) (v_opened : Int32) (v_tape : List Int32) (v_text : List Int32) (v_names : List Int32) : fX9_workOut N x1 x2 v_base v_at v_ends v_fault v_opened v_tape v_text v_names = fX9_workOut_33 N N (0 : Int32) (0 : Int32) (1 : Int32) x1 (0 : Int32) x2 (-1 : Int32) (0 : Int32) v_tape v_text v_names := rfl

set_option maxHeartbeats 4000000 in
set_option maxRecDepth 20000 in
theorem sf_X9_workOut {N : Nat} (hN : 700 ≤ N) {x1 : Int32} {x2 : Int32} {v_base : Int32} {v_at : Int32} {v_ends : Int32} {v_fault : Int32} {v_opened : Int32} {v_tape : List Int32} {v_text : List Int32} {v_names : List Int32} (h_0 : v_tape.length = 120) (h_1 : v_text.length = 120) (h_2 : v_names.length = 6) (h_3 : -1 ≤ x1.toInt) (h_4 : x1.toInt ≤ 0) (h_5 : 0 ≤ x2.toInt) (h_6 : x2.toInt ≤ 120) : wp (fX9_workOut N x1 x2 v_base v_at v_ends v_fault v_opened v_tape v_text v_names) (cu6 (fun (r : Int32) (wv_base : Int32) (wv_at : Int32) (wv_ends : Int32) (wv_fault : Int32) (wv_opened : Int32) => True)) := by
  refine wp_of (uf_X9_workOut _ _ _ _ _ _ _ _ _ _ _) ?_
  have n_1 : (0 : Int32).toInt = 0 := by decide
  have n_2 : (-1 : Int32).toInt = -1 := by decide
  have n_3 : (1 : Int32).toInt = 1 := by decide
  exact sf_X9_workOut_33 hN _ _ _ _ _ _ _ _ _ _ _ _ h_0 h_1 h_2 h_3 h_4 h_5 h_6 (by omega) (by omega) (by omega) (by omega) (by omega) (by omega) (by omega) (by omega) (by omega)

theorem uf_X9_law_37 (N : Nat) (n : Nat) (x2 : Int32) (x3 : Int32) (v_tapeMany : Int32) (v_textMany : Int32) (v_base : Int32) (v_at : Int32) (v_ends : Int32) (v_fault : Int32) (v_opened : Int32) (v_tape : List Int32) (v_text : List Int32) (v_names : List Int32) : fX9_law_37 N (n + 1) x2 x3 v_tapeMany v_textMany v_base v_at v_ends v_fault v_opened v_tape v_text v_names = 
    if x2 ≤ x3 then
    (some ((1 : Int32), v_tapeMany, x2, v_base, v_at, v_ends, v_fault, v_opened, v_text))
    else (mm_ck (mm_inb x3 v_tape.length) (mm_nm ((mm_ig v_tape x3)) (fun (y_11 : Int32) =>
    mm_ck (mm_inb x3 v_text.length) (mm_nm (mm_is v_text x3 y_11) (fun (l_13 : List Int32) =>
    mm_nm (x3 + (1 : Int32)) (fun (y_14 : Int32) =>
    fX9_law_37 N n x2 y_14 v_tapeMany v_textMany v_base v_at v_ends v_fault v_opened v_tape l_13 v_names)))))) := rfl

set_option maxHeartbeats 4000000 in
set_option maxRecDepth 20000 in
theorem sf_X9_law_37 {N : Nat} (hN : 700 ≤ N)  : ∀ (n : Nat) (x2 : Int32) (x3 : Int32) (v_tapeMany : Int32) (v_textMany : Int32) (v_base : Int32) (v_at : Int32) (v_ends : Int32) (v_fault : Int32) (v_opened : Int32) (v_tape : List Int32) (v_text : List Int32) (v_names : List Int32), 0 ≤ v_tapeMany.toInt → v_tapeMany.toInt ≤ 120 → -1 ≤ v_textMany.toInt → v_textMany.toInt ≤ 120 → v_tape.length = 120 → v_text.length = 120 → v_names.length = 6 → 0 ≤ x2.toInt → x2.toInt ≤ 120 → 0 ≤ x3.toInt → x3.toInt ≤ 120 → (121 - x3.toInt).toNat < n → wp (fX9_law_37 N n x2 x3 v_tapeMany v_textMany v_base v_at v_ends v_fault v_opened v_tape v_text v_names) (cu9 (fun (r : Int32) (wv_tapeMany : Int32) (wv_textMany : Int32) (wv_base : Int32) (wv_at : Int32) (wv_ends : Int32) (wv_fault : Int32) (wv_opened : Int32) (wv_text : List Int32) => 0 ≤ wv_tapeMany.toInt ∧ wv_tapeMany.toInt ≤ 120 ∧ -1 ≤ wv_textMany.toInt ∧ wv_textMany.toInt ≤ 120 ∧ wv_text.length = 120)) := by
  intro n
  induction n with
  | zero =>
    intro x2 x3 v_tapeMany v_textMany v_base v_at v_ends v_fault v_opened v_tape v_text v_names h_0 h_1 h_2 h_3 h_4 h_5 h_6 h_7 h_8 h_9 h_10 hm
    exact absurd hm (by omega)
  | succ n ih =>
    intro x2 x3 v_tapeMany v_textMany v_base v_at v_ends v_fault v_opened v_tape v_text v_names h_0 h_1 h_2 h_3 h_4 h_5 h_6 h_7 h_8 h_9 h_10 hm
    refine wp_of (uf_X9_law_37 _ _ _ _ _ _ _ _ _ _ _ _ _ _) ?_
    refine wp_if (fun c_1 => ?_) (fun c_1 => ?_)
    ·
      have dc_1 := i_le c_1
      exact wp_so9 ⟨h_0, h_1, (by omega), h_8, h_5⟩
    ·
      have dc_1 := i_nle c_1
      refine wp_ck (i_inb (by omega) (by omega)) ?_
      refine wp_nm (fun y_11 h_y_11 => ?_)
      have t_y_11 : y_11.toInt = ((mm_ig v_tape x3)).toInt := by rw [h_y_11]
      refine wp_ck (i_inb (by omega) (by omega)) ?_
      refine wp_nm (fun l_13 h_l_13 => ?_)
      have nl_l_13 : l_13.length = 120 := by rw [h_l_13, is_len]; assumption
      have n_2 : (1 : Int32).toInt = 1 := by decide
      refine wp_nm (fun y_14 h_y_14 => ?_)
      have e_3 := i_addE h_y_14.symm (by omega) (by omega)
      exact ih _ _ _ _ _ _ _ _ _ _ _ _ h_0 h_1 h_2 h_3 h_4 nl_l_13 h_6 h_7 h_8 (by omega) (by omega) (by omega)

theorem uf_X9_law (N : Nat) (v_tapeMany : Int32) (v_textMany : Int32) (v_base : Int32) (v_at : Int32) (v_ends : Int32) (v_fault : Int32) (v_opened : Int32) (v_tape : List Int32) (v_text : List Int32) (v_names : List Int32) : fX9_law N v_tapeMany v_textMany v_base v_at v_ends v_fault v_opened v_tape v_text v_names = mm_bd6 (fX9_workOut N (-1 : Int32) v_tapeMany v_base v_at v_ends v_fault v_opened v_tape v_text v_names) (fun (r_1 : Int32) (w_2 : Int32) (w_3 : Int32) (w_4 : Int32) (w_5 : Int32) (w_6 : Int32) =>
    if w_5 < 0 then
    (fX9_law_37 N N v_tapeMany (0 : Int32) (0 : Int32) v_textMany w_2 w_3 w_4 w_5 w_6 v_tape v_text v_names)
    else (some (((-100 : Int32) - w_5), (0 : Int32), v_textMany, w_2, w_3, w_4, w_5, w_6, v_text))) := rfl

set_option maxHeartbeats 4000000 in
set_option maxRecDepth 20000 in
theorem sf_X9_law {N : Nat} (hN : 700 ≤ N) {v_tapeMany : Int32} {v_textMany : Int32} {v_base : Int32} {v_at : Int32} {v_ends : Int32} {v_fault : Int32} {v_opened : Int32} {v_tape : List Int32} {v_text : List Int32} {v_names : List Int32} (h_0 : 0 ≤ v_tapeMany.toInt) (h_1 : v_tapeMany.toInt ≤ 120) (h_2 : -1 ≤ v_textMany.toInt) (h_3 : v_textMany.toInt ≤ 120) (h_4 : v_tape.length = 120) (h_5 : v_text.length = 120) (h_6 : v_names.length = 6) : wp (fX9_law N v_tapeMany v_textMany v_base v_at v_ends v_fault v_opened v_tape v_text v_names) (cu9 (fun (r : Int32) (wv_tapeMany : Int32) (wv_textMany : Int32) (wv_base : Int32) (wv_at : Int32) (wv_ends : Int32) (wv_fault : Int32) (wv_opened : Int32) (wv_text : List Int32) => 0 ≤ wv_tapeMany.toInt ∧ wv_tapeMany.toInt ≤ 120 ∧ -1 ≤ wv_textMany.toInt ∧ wv_textMany.toInt ≤ 120 ∧ wv_text.length = 120)) := by
  refine wp_of (uf_X9_law _ _ _ _ _ _ _ _ _ _ _) ?_
  have n_1 : (-1 : Int32).toInt = -1 := by decide
  refine wp_bd6 (sf_X9_workOut hN h_4 h_5 h_6 (by omega) (by omega) h_0 h_1) (fun r_1 w_2 w_3 w_4 w_5 w_6 _ => ?_)
  have n_3 : (0 : Int32).toInt = 0 := by decide
  refine wp_if (fun c_2 => ?_) (fun c_2 => ?_)
  ·
    have dc_2 := i_lt c_2
    exact sf_X9_law_37 hN _ _ _ _ _ _ _ _ _ _ _ _ _ (by omega) (by omega) h_2 h_3 h_4 h_5 h_6 h_0 h_1 (by omega) (by omega) (by omega)
  ·
    have dc_2 := i_nlt c_2
    exact wp_so9 ⟨(by omega), (by omega), h_2, h_3, h_5⟩

theorem uf_X9_wears (N : Nat) (x1 : Int32) (x2 : Int32) (x3 : Int32) (x4 : Int32) (x5 : Int32) (v_textMany : Int32) (v_base : Int32) (v_at : Int32) (v_ends : Int32) (v_fault : Int32) (v_opened : Int32) (v_tape : List Int32) (v_text : List Int32) (v_names : List Int32) : fX9_wears N x1 x2 x3 x4 x5 v_textMany v_base v_at v_ends v_fault v_opened v_tape v_text v_names = if 0 ≤ v_textMany then
    (mm_ck (mm_inb (0 : Int32) v_names.length) (mm_nm (mm_is v_names (0 : Int32) x1) (fun (l_3 : List Int32) =>
    mm_ck (mm_inb (1 : Int32) l_3.length) (mm_nm (mm_is l_3 (1 : Int32) x2) (fun (l_5 : List Int32) =>
    mm_ck (mm_inb (2 : Int32) l_5.length) (mm_nm (mm_is l_5 (2 : Int32) x3) (fun (l_7 : List Int32) =>
    mm_ck (mm_nz (2 : Int32)) (mm_nm ((mm_rem x4 (2 : Int32))) (fun (y_9 : Int32) =>
    mm_ck (mm_inb (3 : Int32) l_7.length) (mm_nm (mm_is l_7 (3 : Int32) y_9) (fun (l_11 : List Int32) =>
    mm_ck (mm_nz (2 : Int32)) (mm_nm ((x4 / (2 : Int32))) (fun (y_13 : Int32) =>
    mm_ck (mm_inb (4 : Int32) l_11.length) (mm_nm (mm_is l_11 (4 : Int32) y_13) (fun (l_15 : List Int32) =>
    mm_ck (mm_inb (5 : Int32) l_15.length) (mm_nm (mm_is l_15 (5 : Int32) x5) (fun (l_17 : List Int32) =>
    mm_bd6 (fX9_workOut N (0 : Int32) v_textMany v_base v_at v_ends v_fault v_opened v_tape v_text l_17) (fun (r_18 : Int32) (w_19 : Int32) (w_20 : Int32) (w_21 : Int32) (w_22 : Int32) (w_23 : Int32) =>
    if 0 ≤ r_18 then
    (if r_18 ≤ (9 : Int32) then
    (some (r_18, w_19, w_20, w_21, w_22, w_23, l_17))
    else (some ((9 : Int32), w_19, w_20, w_21, w_22, w_23, l_17)))
    else (some ((0 : Int32), w_19, w_20, w_21, w_22, w_23, l_17))))))))))))))))))))
    else (some (((1 : Int32) + ((2 : Int32) * x3)), v_base, v_at, v_ends, v_fault, v_opened, v_names)) := rfl

set_option maxHeartbeats 4000000 in
set_option maxRecDepth 20000 in
theorem sf_X9_wears {N : Nat} (hN : 700 ≤ N) {x1 : Int32} {x2 : Int32} {x3 : Int32} {x4 : Int32} {x5 : Int32} {v_textMany : Int32} {v_base : Int32} {v_at : Int32} {v_ends : Int32} {v_fault : Int32} {v_opened : Int32} {v_tape : List Int32} {v_text : List Int32} {v_names : List Int32} (h_0 : -1 ≤ v_textMany.toInt) (h_1 : v_textMany.toInt ≤ 120) (h_2 : v_tape.length = 120) (h_3 : v_text.length = 120) (h_4 : v_names.length = 6) : wp (fX9_wears N x1 x2 x3 x4 x5 v_textMany v_base v_at v_ends v_fault v_opened v_tape v_text v_names) (cu7 (fun (r : Int32) (wv_base : Int32) (wv_at : Int32) (wv_ends : Int32) (wv_fault : Int32) (wv_opened : Int32) (wv_names : List Int32) => wv_names.length = 6)) := by
  refine wp_of (uf_X9_wears _ _ _ _ _ _ _ _ _ _ _ _ _ _ _) ?_
  have n_2 : (0 : Int32).toInt = 0 := by decide
  refine wp_if (fun c_1 => ?_) (fun c_1 => ?_)
  ·
    have dc_1 := i_le c_1
    refine wp_ck (i_inb (by omega) (by omega)) ?_
    refine wp_nm (fun l_3 h_l_3 => ?_)
    have nl_l_3 : l_3.length = 6 := by rw [h_l_3, is_len]; assumption
    have n_3 : (1 : Int32).toInt = 1 := by decide
    refine wp_ck (i_inb (by omega) (by omega)) ?_
    refine wp_nm (fun l_5 h_l_5 => ?_)
    have nl_l_5 : l_5.length = 6 := by rw [h_l_5, is_len]; assumption
    have n_4 : (2 : Int32).toInt = 2 := by decide
    refine wp_ck (i_inb (by omega) (by omega)) ?_
    refine wp_nm (fun l_7 h_l_7 => ?_)
    have nl_l_7 : l_7.length = 6 := by rw [h_l_7, is_len]; assumption
    refine wp_ck (i_nz (by omega)) ?_
    refine wp_nm (fun y_9 _ => ?_)
    have n_5 : (3 : Int32).toInt = 3 := by decide
    refine wp_ck (i_inb (by omega) (by omega)) ?_
    refine wp_nm (fun l_11 h_l_11 => ?_)
    have nl_l_11 : l_11.length = 6 := by rw [h_l_11, is_len]; assumption
    refine wp_ck (i_nz (by omega)) ?_
    refine wp_nm (fun y_13 _ => ?_)
    have n_6 : (4 : Int32).toInt = 4 := by decide
    refine wp_ck (i_inb (by omega) (by omega)) ?_
    refine wp_nm (fun l_15 h_l_15 => ?_)
    have nl_l_15 : l_15.length = 6 := by rw [h_l_15, is_len]; assumption
    have n_7 : (5 : Int32).toInt = 5 := by decide
    refine wp_ck (i_inb (by omega) (by omega)) ?_
    refine wp_nm (fun l_17 h_l_17 => ?_)
    have nl_l_17 : l_17.length = 6 := by rw [h_l_17, is_len]; assumption
    refine wp_bd6 (sf_X9_workOut hN h_2 h_3 nl_l_17 (by omega) (by omega) (by omega) h_1) (fun r_18 w_19 w_20 w_21 w_22 w_23 _ => ?_)
    refine wp_if (fun c_8 => ?_) (fun c_8 => ?_)
    ·
      have dc_8 := i_le c_8
      have n_10 : (9 : Int32).toInt = 9 := by decide
      refine wp_if (fun c_9 => ?_) (fun c_9 => ?_)
      ·
        have dc_9 := i_le c_9
        exact wp_so7 nl_l_17
      ·
        have dc_9 := i_nle c_9
        exact wp_so7 nl_l_17
    ·
      have dc_8 := i_nle c_8
      exact wp_so7 nl_l_17
  ·
    have dc_1 := i_nle c_1
    exact wp_so7 h_4
