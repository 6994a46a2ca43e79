/-! What keep and row answer -/
set_option maxHeartbeats 4000000 in
set_option maxRecDepth 20000 in
theorem sz_X1_has {N : Nat} (hN : 700 ≤ N) {x1 : Int32} {v_size : Int32} (h_0 : 0 ≤ v_size.toInt) (h_1 : v_size.toInt ≤ 50) : wp (fX1_has N x1 v_size) (fun (r : Bool) => ((r = true ∧ 0 ≤ x1.toInt ∧ x1.toInt < v_size.toInt) ∨ (r = false ∧ (x1.toInt < 0 ∨ v_size.toInt ≤ x1.toInt)))) := by
  refine wp_of (uf_X1_has _ _ _) ?_
  have n_2 : (0 : Int32).toInt = 0 := by decide
  refine wp_if (fun c_1 => ?_) (fun c_1 => ?_)
  ·
    have dc_1 := i_lt c_1
    exact wp_so1 (by first | exact Or.inl ⟨rfl, by first | trivial | omega⟩ | exact Or.inr ⟨rfl, by first | trivial | omega⟩)
  ·
    have dc_1 := i_nlt c_1
    refine wp_if (fun c_3 => ?_) (fun c_3 => ?_)
    ·
      have dc_3 := i_le c_3
      exact wp_so1 (by first | exact Or.inl ⟨rfl, by first | trivial | omega⟩ | exact Or.inr ⟨rfl, by first | trivial | omega⟩)
    ·
      have dc_3 := i_nle c_3
      exact wp_so1 (by first | exact Or.inl ⟨rfl, by first | trivial | omega⟩ | exact Or.inr ⟨rfl, by first | trivial | omega⟩)
set_option maxHeartbeats 4000000 in
set_option maxRecDepth 20000 in
theorem sz_X9_isBody {N : Nat} (hN : 700 ≤ N) {x1 : Int32} {v_bodies : Int32} (h_0 : 0 ≤ v_bodies.toInt) (h_1 : v_bodies.toInt ≤ 50) : wp (fX9_isBody N x1 v_bodies) (fun (r : Bool) => ((r = true ∧ 0 ≤ x1.toInt ∧ x1.toInt < v_bodies.toInt) ∨ (r = false ∧ (x1.toInt < 0 ∨ v_bodies.toInt ≤ x1.toInt)))) := by
  refine wp_of (uf_X9_isBody _ _ _) ?_
  have n_1 := i_64 x1
  have n_2 : (0 : Int64).toInt = 0 := by decide
  have n_3 : (1 : Int32).toInt = 1 := by decide
  generalize hz_z : (v_bodies - (1 : Int32)) = z
  have e_4 := i_subE hz_z (by omega) (by omega)
  have n_5 := i_64 z
  refine wp_bd1 (sf_X9_within hN ) (fun r_1 q_6 => ?_)
  rcases q_6 with ⟨rfl, q_6⟩ | ⟨rfl, q_6⟩
  ·
    exact wp_so1 (by first | exact Or.inl ⟨rfl, by first | trivial | omega⟩ | exact Or.inr ⟨rfl, by first | trivial | omega⟩)
  ·
    exact wp_so1 (by first | exact Or.inl ⟨rfl, by first | trivial | omega⟩ | exact Or.inr ⟨rfl, by first | trivial | omega⟩)
set_option maxHeartbeats 4000000 in
set_option maxRecDepth 20000 in
theorem sz_X9_isShelf {N : Nat} (hN : 700 ≤ N) {x0 : Int32}  : wp (fX9_isShelf N x0) (fun (r : Bool) => ((r = true ∧ 0 ≤ x0.toInt ∧ x0.toInt ≤ 5) ∨ (r = false ∧ (x0.toInt < 0 ∨ 5 < x0.toInt)))) := by
  refine wp_of (uf_X9_isShelf _ _) ?_
  have n_1 := i_64 x0
  have n_2 : (0 : Int64).toInt = 0 := by decide
  have n_3 : (5 : Int64).toInt = 5 := by decide
  refine wp_bd1 (sf_X9_within hN ) (fun r_1 q_4 => ?_)
  rcases q_4 with ⟨rfl, q_4⟩ | ⟨rfl, q_4⟩
  ·
    exact wp_so1 (by first | exact Or.inl ⟨rfl, by first | trivial | omega⟩ | exact Or.inr ⟨rfl, by first | trivial | omega⟩)
  ·
    exact wp_so1 (by first | exact Or.inl ⟨rfl, by first | trivial | omega⟩ | exact Or.inr ⟨rfl, by first | trivial | omega⟩)
set_option maxHeartbeats 4000000 in
set_option maxRecDepth 20000 in
theorem sz_X8_keep {N : Nat} (hN : 700 ≤ N) {x1 : Int32} {x2 : Int32} {v_foldings_size : Int32} {v_shelves0_holds : Int32} {v_shelves0_body : Int32} {v_shelves1_holds : Int32} {v_shelves1_body : Int32} {v_shelves2_holds : Int32} {v_shelves2_body : Int32} {v_shelves3_holds : Int32} {v_shelves3_body : Int32} {v_shelves4_holds : Int32} {v_shelves4_body : Int32} {v_shelves5_holds : Int32} {v_shelves5_body : Int32} (h_0 : 0 ≤ v_foldings_size.toInt) (h_1 : v_foldings_size.toInt ≤ 50) : wp (fX8_keep N x1 x2 v_foldings_size v_shelves0_holds v_shelves0_body v_shelves1_holds v_shelves1_body v_shelves2_holds v_shelves2_body v_shelves3_holds v_shelves3_body v_shelves4_holds v_shelves4_body v_shelves5_holds v_shelves5_body) (cu13 (fun (r : Int32) (wv_shelves0_holds : Int32) (wv_shelves0_body : Int32) (wv_shelves1_holds : Int32) (wv_shelves1_body : Int32) (wv_shelves2_holds : Int32) (wv_shelves2_body : Int32) (wv_shelves3_holds : Int32) (wv_shelves3_body : Int32) (wv_shelves4_holds : Int32) (wv_shelves4_body : Int32) (wv_shelves5_holds : Int32) (wv_shelves5_body : Int32) => ((((0 ≤ x1.toInt ∧ x1.toInt ≤ 5 ∧ (x2.toInt = -1 ∨ (0 ≤ x2.toInt ∧ x2.toInt < v_foldings_size.toInt))) ∧ r.toInt = 1) ∨ (¬ (0 ≤ x1.toInt ∧ x1.toInt ≤ 5 ∧ (x2.toInt = -1 ∨ (0 ≤ x2.toInt ∧ x2.toInt < v_foldings_size.toInt))) ∧ r.toInt = -1))))) := by
  have hb1 : -2147483648 ≤ x1.toInt := Int32.le_toInt x1
  have hb2 : -2147483648 ≤ x2.toInt := Int32.le_toInt x2
  refine wp_of (uf_X8_keep _ _ _ _ _ _ _ _ _ _ _ _ _ _ _ _) ?_
  refine wp_in1 ?_
  refine wp_of (uf_X8_isShelf _ _) ?_
  have n_2 : (0 : Int32).toInt = 0 := by decide
  refine wp_if (fun c_1 => ?_) (fun c_1 => ?_)
  ·
    have dc_1 := i_lt c_1
    refine wp_so1 ?_
    show wp _ _
    refine wp_ifp (by decide) ?_
    have n_3 : (-1 : Int32).toInt = -1 := by decide
    exact wp_so13 (by omega)
  ·
    have dc_1 := i_nlt c_1
    have n_5 : (6 : Int32).toInt = 6 := by decide
    refine wp_if (fun c_4 => ?_) (fun c_4 => ?_)
    ·
      have dc_4 := i_le c_4
      refine wp_so1 ?_
      show wp _ _
      refine wp_ifp (by decide) ?_
      have n_6 : (-1 : Int32).toInt = -1 := by decide
      exact wp_so13 (by omega)
    ·
      have dc_4 := i_nle c_4
      refine wp_so1 ?_
      show wp _ _
      refine wp_ifn (by decide) ?_
      have n_8 : (-1 : Int32).toInt = -1 := by decide
      refine wp_if (fun c_7 => ?_) (fun c_7 => ?_)
      ·
        have dc_7 := i_eq c_7
        refine wp_of (uf_X8_keep_25 _ _ _ _ _ _ _ _ _ _ _ _ _ _ _ _) ?_
        refine wp_ifp c_7 ?_
        refine wp_if (fun c_9 => ?_) (fun c_9 => ?_)
        ·
          have dc_9 := i_eq c_9
          have n_10 : (1 : Int32).toInt = 1 := by decide
          exact wp_so13 (by omega)
        ·
          have dc_9 := i_ne c_9
          have n_12 : (1 : Int32).toInt = 1 := by decide
          refine wp_if (fun c_11 => ?_) (fun c_11 => ?_)
          ·
            have dc_11 := i_eq c_11
            exact wp_so13 (by omega)
          ·
            have dc_11 := i_ne c_11
            have n_14 : (2 : Int32).toInt = 2 := by decide
            refine wp_if (fun c_13 => ?_) (fun c_13 => ?_)
            ·
              have dc_13 := i_eq c_13
              exact wp_so13 (by omega)
            ·
              have dc_13 := i_ne c_13
              have n_16 : (3 : Int32).toInt = 3 := by decide
              refine wp_if (fun c_15 => ?_) (fun c_15 => ?_)
              ·
                have dc_15 := i_eq c_15
                exact wp_so13 (by omega)
              ·
                have dc_15 := i_ne c_15
                have n_18 : (4 : Int32).toInt = 4 := by decide
                refine wp_if (fun c_17 => ?_) (fun c_17 => ?_)
                ·
                  have dc_17 := i_eq c_17
                  exact wp_so13 (by omega)
                ·
                  have dc_17 := i_ne c_17
                  have n_20 : (5 : Int32).toInt = 5 := by decide
                  refine wp_if (fun c_19 => ?_) (fun c_19 => ?_)
                  ·
                    have dc_19 := i_eq c_19
                    exact wp_so13 (by omega)
                  ·
                    have dc_19 := i_ne c_19
                    exact (show False by omega).elim
      ·
        have dc_7 := i_ne c_7
        refine wp_bd1 (sz_X1_has hN h_0 h_1) (fun r_5 q_21 => ?_)
        rcases q_21 with ⟨rfl, q_21⟩ | ⟨rfl, q_21⟩
        ·
          refine wp_ifn (by decide) ?_
          refine wp_of (uf_X8_keep_25 _ _ _ _ _ _ _ _ _ _ _ _ _ _ _ _) ?_
          refine wp_ifn c_7 ?_
          refine wp_if (fun c_22 => ?_) (fun c_22 => ?_)
          ·
            have dc_22 := i_eq c_22
            refine wp_bd2 (sf_X6_holdFolding hN ) (fun w_10 w_11 _ => ?_)
            have n_23 : (1 : Int32).toInt = 1 := by decide
            exact wp_so13 (by omega)
          ·
            have dc_22 := i_ne c_22
            have n_25 : (1 : Int32).toInt = 1 := by decide
            refine wp_if (fun c_24 => ?_) (fun c_24 => ?_)
            ·
              have dc_24 := i_eq c_24
              refine wp_bd2 (sf_X6_holdFolding hN ) (fun w_14 w_15 _ => ?_)
              exact wp_so13 (by omega)
            ·
              have dc_24 := i_ne c_24
              have n_27 : (2 : Int32).toInt = 2 := by decide
              refine wp_if (fun c_26 => ?_) (fun c_26 => ?_)
              ·
                have dc_26 := i_eq c_26
                refine wp_bd2 (sf_X6_holdFolding hN ) (fun w_18 w_19 _ => ?_)
                exact wp_so13 (by omega)
              ·
                have dc_26 := i_ne c_26
                have n_29 : (3 : Int32).toInt = 3 := by decide
                refine wp_if (fun c_28 => ?_) (fun c_28 => ?_)
                ·
                  have dc_28 := i_eq c_28
                  refine wp_bd2 (sf_X6_holdFolding hN ) (fun w_22 w_23 _ => ?_)
                  exact wp_so13 (by omega)
                ·
                  have dc_28 := i_ne c_28
                  have n_31 : (4 : Int32).toInt = 4 := by decide
                  refine wp_if (fun c_30 => ?_) (fun c_30 => ?_)
                  ·
                    have dc_30 := i_eq c_30
                    refine wp_bd2 (sf_X6_holdFolding hN ) (fun w_26 w_27 _ => ?_)
                    exact wp_so13 (by omega)
                  ·
                    have dc_30 := i_ne c_30
                    have n_33 : (5 : Int32).toInt = 5 := by decide
                    refine wp_if (fun c_32 => ?_) (fun c_32 => ?_)
                    ·
                      have dc_32 := i_eq c_32
                      refine wp_bd2 (sf_X6_holdFolding hN ) (fun w_30 w_31 _ => ?_)
                      exact wp_so13 (by omega)
                    ·
                      have dc_32 := i_ne c_32
                      exact (show False by omega).elim
        ·
          refine wp_ifp (by decide) ?_
          exact wp_so13 (by omega)
set_option maxHeartbeats 4000000 in
set_option maxRecDepth 20000 in
theorem sz_X9_keep {N : Nat} (hN : 700 ≤ N) {x1 : Int32} {x2 : Int32} {v_bodies : Int32} {v_shelf : List Int32} {v_many : List Int32} (h_0 : 0 ≤ v_bodies.toInt) (h_1 : v_bodies.toInt ≤ 50) (h_2 : v_shelf.length = 6) (h_3 : v_many.length = 6) (h_4 : zn v_many 0 6 0 61) : wp (fX9_keep N x1 x2 v_bodies v_shelf v_many) (cu3 (fun (r : Int32) (wv_shelf : List Int32) (wv_many : List Int32) => wv_shelf.length = 6 ∧ wv_many.length = 6 ∧ zn wv_many 0 6 0 61 ∧ ((((0 ≤ x1.toInt ∧ x1.toInt ≤ 5 ∧ (x2.toInt = -1 ∨ (0 ≤ x2.toInt ∧ x2.toInt < v_bodies.toInt))) ∧ r.toInt = 1) ∨ (¬ (0 ≤ x1.toInt ∧ x1.toInt ≤ 5 ∧ (x2.toInt = -1 ∨ (0 ≤ x2.toInt ∧ x2.toInt < v_bodies.toInt))) ∧ r.toInt = -1))))) := by
  have hb1 : -2147483648 ≤ x1.toInt := Int32.le_toInt x1
  have hb2 : -2147483648 ≤ x2.toInt := Int32.le_toInt x2
  refine wp_of (uf_X9_keep _ _ _ _ _ _) ?_
  refine wp_bd1 (sz_X9_isShelf hN ) (fun r_1 q_1 => ?_)
  rcases q_1 with ⟨rfl, q_1⟩ | ⟨rfl, q_1⟩
  ·
    refine wp_ifn (by decide) ?_
    have n_3 : (-1 : Int32).toInt = -1 := by decide
    refine wp_if (fun c_2 => ?_) (fun c_2 => ?_)
    ·
      have dc_2 := i_eq c_2
      refine wp_of (uf_X9_keep_22 _ _ _ _ _ _) ?_
      refine wp_ck (i_inb (by omega) (by omega)) ?_
      refine wp_nm (fun l_9 h_l_9 => ?_)
      have nl_l_9 : l_9.length = 6 := by rw [h_l_9, is_len]; assumption
      refine wp_ck (i_inb (by omega) (by omega)) ?_
      have n_4 : (0 : Int32).toInt = 0 := by decide
      refine wp_nm (fun l_11 h_l_11 => ?_)
      have nl_l_11 : l_11.length = 6 := by rw [h_l_11, is_len]; assumption
      have n_5 : (1 : Int32).toInt = 1 := by decide
      exact wp_so3 ⟨nl_l_9, nl_l_11, (by first | assumption | exact zn_nil (by omega) | (rw [h_l_11]; first | exact zn_out h_4 (by omega) (by omega) | exact zn_in h_4 (by omega) (by omega) (by omega) | exact zn_ext h_4 (by omega) (by omega) (by omega) (by omega) (by omega) | exact zn_out (zn_sub h_4 (by omega) (by omega) (by omega) (by omega)) (by omega) (by omega)) | (exfalso; omega)), (by omega)⟩
    ·
      have dc_2 := i_ne c_2
      refine wp_bd1 (sz_X9_isBody hN h_0 h_1) (fun r_5 q_6 => ?_)
      rcases q_6 with ⟨rfl, q_6⟩ | ⟨rfl, q_6⟩
      ·
        refine wp_ifn (by decide) ?_
        refine wp_of (uf_X9_keep_22 _ _ _ _ _ _) ?_
        refine wp_ck (i_inb (by omega) (by omega)) ?_
        refine wp_nm (fun l_9__7 h_l_9__7 => ?_)
        have nl_l_9__7 : l_9__7.length = 6 := by rw [h_l_9__7, is_len]; assumption
        refine wp_ck (i_inb (by omega) (by omega)) ?_
        have n_9 : (0 : Int32).toInt = 0 := by decide
        refine wp_nm (fun l_11__8 h_l_11__8 => ?_)
        have nl_l_11__8 : l_11__8.length = 6 := by rw [h_l_11__8, is_len]; assumption
        have n_10 : (1 : Int32).toInt = 1 := by decide
        exact wp_so3 ⟨nl_l_9__7, nl_l_11__8, (by first | assumption | exact zn_nil (by omega) | (rw [h_l_11__8]; first | exact zn_out h_4 (by omega) (by omega) | exact zn_in h_4 (by omega) (by omega) (by omega) | exact zn_ext h_4 (by omega) (by omega) (by omega) (by omega) (by omega) | exact zn_out (zn_sub h_4 (by omega) (by omega) (by omega) (by omega)) (by omega) (by omega)) | (exfalso; omega)), (by omega)⟩
      ·
        refine wp_ifp (by decide) ?_
        exact wp_so3 ⟨h_2, h_3, h_4, (by omega)⟩
  ·
    refine wp_ifp (by decide) ?_
    have n_11 : (-1 : Int32).toInt = -1 := by decide
    exact wp_so3 ⟨h_2, h_3, h_4, (by omega)⟩
set_option maxHeartbeats 4000000 in
set_option maxRecDepth 20000 in
theorem sz_X8_row {N : Nat} (hN : 700 ≤ N) {x1 : Int32} {x2 : Int32} {x3 : Int32} {v_shelves0_holds : Int32} {v_shelves0_sort : Int32} {v_shelves0_size : Int32} {v_shelves0_items : List Int64} {v_shelves1_holds : Int32} {v_shelves1_sort : Int32} {v_shelves1_size : Int32} {v_shelves1_items : List Int64} {v_shelves2_holds : Int32} {v_shelves2_sort : Int32} {v_shelves2_size : Int32} {v_shelves2_items : List Int64} {v_shelves3_holds : Int32} {v_shelves3_sort : Int32} {v_shelves3_size : Int32} {v_shelves3_items : List Int64} {v_shelves4_holds : Int32} {v_shelves4_sort : Int32} {v_shelves4_size : Int32} {v_shelves4_items : List Int64} {v_shelves5_holds : Int32} {v_shelves5_sort : Int32} {v_shelves5_size : Int32} {v_shelves5_items : List Int64} (h_0 : 0 ≤ v_shelves0_size.toInt) (h_1 : v_shelves0_size.toInt ≤ 60) (h_2 : v_shelves0_items.length = 60) (h_3 : 0 ≤ v_shelves1_size.toInt) (h_4 : v_shelves1_size.toInt ≤ 60) (h_5 : v_shelves1_items.length = 60) (h_6 : 0 ≤ v_shelves2_size.toInt) (h_7 : v_shelves2_size.toInt ≤ 60) (h_8 : v_shelves2_items.length = 60) (h_9 : 0 ≤ v_shelves3_size.toInt) (h_10 : v_shelves3_size.toInt ≤ 60) (h_11 : v_shelves3_items.length = 60) (h_12 : 0 ≤ v_shelves4_size.toInt) (h_13 : v_shelves4_size.toInt ≤ 60) (h_14 : v_shelves4_items.length = 60) (h_15 : 0 ≤ v_shelves5_size.toInt) (h_16 : v_shelves5_size.toInt ≤ 60) (h_17 : v_shelves5_items.length = 60) : wp (fX8_row N x1 x2 x3 v_shelves0_holds v_shelves0_sort v_shelves0_size v_shelves0_items v_shelves1_holds v_shelves1_sort v_shelves1_size v_shelves1_items v_shelves2_holds v_shelves2_sort v_shelves2_size v_shelves2_items v_shelves3_holds v_shelves3_sort v_shelves3_size v_shelves3_items v_shelves4_holds v_shelves4_sort v_shelves4_size v_shelves4_items v_shelves5_holds v_shelves5_sort v_shelves5_size v_shelves5_items) (cu25 (fun (r : Int32) (wv_shelves0_holds : Int32) (wv_shelves0_sort : Int32) (wv_shelves0_size : Int32) (wv_shelves0_items : List Int64) (wv_shelves1_holds : Int32) (wv_shelves1_sort : Int32) (wv_shelves1_size : Int32) (wv_shelves1_items : List Int64) (wv_shelves2_holds : Int32) (wv_shelves2_sort : Int32) (wv_shelves2_size : Int32) (wv_shelves2_items : List Int64) (wv_shelves3_holds : Int32) (wv_shelves3_sort : Int32) (wv_shelves3_size : Int32) (wv_shelves3_items : List Int64) (wv_shelves4_holds : Int32) (wv_shelves4_sort : Int32) (wv_shelves4_size : Int32) (wv_shelves4_items : List Int64) (wv_shelves5_holds : Int32) (wv_shelves5_sort : Int32) (wv_shelves5_size : Int32) (wv_shelves5_items : List Int64) => 0 ≤ wv_shelves0_size.toInt ∧ wv_shelves0_size.toInt ≤ 60 ∧ wv_shelves0_items.length = 60 ∧ 0 ≤ wv_shelves1_size.toInt ∧ wv_shelves1_size.toInt ≤ 60 ∧ wv_shelves1_items.length = 60 ∧ 0 ≤ wv_shelves2_size.toInt ∧ wv_shelves2_size.toInt ≤ 60 ∧ wv_shelves2_items.length = 60 ∧ 0 ≤ wv_shelves3_size.toInt ∧ wv_shelves3_size.toInt ≤ 60 ∧ wv_shelves3_items.length = 60 ∧ 0 ≤ wv_shelves4_size.toInt ∧ wv_shelves4_size.toInt ≤ 60 ∧ wv_shelves4_items.length = 60 ∧ 0 ≤ wv_shelves5_size.toInt ∧ wv_shelves5_size.toInt ≤ 60 ∧ wv_shelves5_items.length = 60 ∧ ((((0 ≤ x1.toInt ∧ x1.toInt ≤ 5 ∧ 0 ≤ x2.toInt ∧ x2.toInt ≤ 4 ∧ x3.toInt ≤ 60) ∧ 0 ≤ x3.toInt ∧ r.toInt = 1) ∨ ((0 ≤ x1.toInt ∧ x1.toInt ≤ 5 ∧ 0 ≤ x2.toInt ∧ x2.toInt ≤ 4 ∧ x3.toInt ≤ 60) ∧ x3.toInt < 0 ∧ r.toInt = -14) ∨ (¬ (0 ≤ x1.toInt ∧ x1.toInt ≤ 5 ∧ 0 ≤ x2.toInt ∧ x2.toInt ≤ 4 ∧ x3.toInt ≤ 60) ∧ r.toInt = -1))))) := by
  have hb1 : -2147483648 ≤ x1.toInt := Int32.le_toInt x1
  have hb2 : -2147483648 ≤ x2.toInt := Int32.le_toInt x2
  have hb3 : -2147483648 ≤ x3.toInt := Int32.le_toInt x3
  refine wp_of (uf_X8_row _ _ _ _ _ _ _ _ _ _ _ _ _ _ _ _ _ _ _ _ _ _ _ _ _ _ _ _) ?_
  refine wp_in1 ?_
  refine wp_of (uf_X8_isShelf _ _) ?_
  have n_2 : (0 : Int32).toInt = 0 := by decide
  refine wp_if (fun c_1 => ?_) (fun c_1 => ?_)
  ·
    have dc_1 := i_lt c_1
    refine wp_so1 ?_
    show wp _ _
    refine wp_ifp (by decide) ?_
    have n_3 : (-1 : Int32).toInt = -1 := by decide
    exact wp_so25 ⟨h_0, h_1, h_2, h_3, h_4, h_5, h_6, h_7, h_8, h_9, h_10, h_11, h_12, h_13, h_14, h_15, h_16, h_17, (by omega)⟩
  ·
    have dc_1 := i_nlt c_1
    have n_5 : (6 : Int32).toInt = 6 := by decide
    refine wp_if (fun c_4 => ?_) (fun c_4 => ?_)
    ·
      have dc_4 := i_le c_4
      refine wp_so1 ?_
      show wp _ _
      refine wp_ifp (by decide) ?_
      have n_6 : (-1 : Int32).toInt = -1 := by decide
      exact wp_so25 ⟨h_0, h_1, h_2, h_3, h_4, h_5, h_6, h_7, h_8, h_9, h_10, h_11, h_12, h_13, h_14, h_15, h_16, h_17, (by omega)⟩
    ·
      have dc_4 := i_nle c_4
      refine wp_so1 ?_
      show wp _ _
      refine wp_ifn (by decide) ?_
      refine wp_if (fun c_7 => ?_) (fun c_7 => ?_)
      ·
        have dc_7 := i_lt c_7
        have n_8 : (-1 : Int32).toInt = -1 := by decide
        exact wp_so25 ⟨h_0, h_1, h_2, h_3, h_4, h_5, h_6, h_7, h_8, h_9, h_10, h_11, h_12, h_13, h_14, h_15, h_16, h_17, (by omega)⟩
      ·
        have dc_7 := i_nlt c_7
        have n_10 : (5 : Int32).toInt = 5 := by decide
        refine wp_if (fun c_9 => ?_) (fun c_9 => ?_)
        ·
          have dc_9 := i_le c_9
          have n_11 : (-1 : Int32).toInt = -1 := by decide
          exact wp_so25 ⟨h_0, h_1, h_2, h_3, h_4, h_5, h_6, h_7, h_8, h_9, h_10, h_11, h_12, h_13, h_14, h_15, h_16, h_17, (by omega)⟩
        ·
          have dc_9 := i_nle c_9
          have n_13 : (60 : Int32).toInt = 60 := by decide
          refine wp_if (fun c_12 => ?_) (fun c_12 => ?_)
          ·
            have dc_12 := i_le c_12
            refine wp_if (fun c_14 => ?_) (fun c_14 => ?_)
            ·
              have dc_14 := i_le c_14
              refine wp_if (fun c_15 => ?_) (fun c_15 => ?_)
              ·
                have dc_15 := i_eq c_15
                refine wp_bd4 (sf_X6_holdRow hN h_0 h_1 h_2 (by omega) (by omega)) (fun w_9 w_10 w_11 w_12 ⟨q_16, q_17, q_18⟩ => ?_)
                have n_19 : (1 : Int32).toInt = 1 := by decide
                exact wp_so25 ⟨q_16, q_17, q_18, h_3, h_4, h_5, h_6, h_7, h_8, h_9, h_10, h_11, h_12, h_13, h_14, h_15, h_16, h_17, (by omega)⟩
              ·
                have dc_15 := i_ne c_15
                have n_21 : (1 : Int32).toInt = 1 := by decide
                refine wp_if (fun c_20 => ?_) (fun c_20 => ?_)
                ·
                  have dc_20 := i_eq c_20
                  refine wp_bd4 (sf_X6_holdRow hN h_3 h_4 h_5 (by omega) (by omega)) (fun w_15 w_16 w_17 w_18 ⟨q_22, q_23, q_24⟩ => ?_)
                  exact wp_so25 ⟨h_0, h_1, h_2, q_22, q_23, q_24, h_6, h_7, h_8, h_9, h_10, h_11, h_12, h_13, h_14, h_15, h_16, h_17, (by omega)⟩
                ·
                  have dc_20 := i_ne c_20
                  have n_26 : (2 : Int32).toInt = 2 := by decide
                  refine wp_if (fun c_25 => ?_) (fun c_25 => ?_)
                  ·
                    have dc_25 := i_eq c_25
                    refine wp_bd4 (sf_X6_holdRow hN h_6 h_7 h_8 (by omega) (by omega)) (fun w_21 w_22 w_23 w_24 ⟨q_27, q_28, q_29⟩ => ?_)
                    exact wp_so25 ⟨h_0, h_1, h_2, h_3, h_4, h_5, q_27, q_28, q_29, h_9, h_10, h_11, h_12, h_13, h_14, h_15, h_16, h_17, (by omega)⟩
                  ·
                    have dc_25 := i_ne c_25
                    have n_31 : (3 : Int32).toInt = 3 := by decide
                    refine wp_if (fun c_30 => ?_) (fun c_30 => ?_)
                    ·
                      have dc_30 := i_eq c_30
                      refine wp_bd4 (sf_X6_holdRow hN h_9 h_10 h_11 (by omega) (by omega)) (fun w_27 w_28 w_29 w_30 ⟨q_32, q_33, q_34⟩ => ?_)
                      exact wp_so25 ⟨h_0, h_1, h_2, h_3, h_4, h_5, h_6, h_7, h_8, q_32, q_33, q_34, h_12, h_13, h_14, h_15, h_16, h_17, (by omega)⟩
                    ·
                      have dc_30 := i_ne c_30
                      have n_36 : (4 : Int32).toInt = 4 := by decide
                      refine wp_if (fun c_35 => ?_) (fun c_35 => ?_)
                      ·
                        have dc_35 := i_eq c_35
                        refine wp_bd4 (sf_X6_holdRow hN h_12 h_13 h_14 (by omega) (by omega)) (fun w_33 w_34 w_35 w_36 ⟨q_37, q_38, q_39⟩ => ?_)
                        exact wp_so25 ⟨h_0, h_1, h_2, h_3, h_4, h_5, h_6, h_7, h_8, h_9, h_10, h_11, q_37, q_38, q_39, h_15, h_16, h_17, (by omega)⟩
                      ·
                        have dc_35 := i_ne c_35
                        refine wp_if (fun c_40 => ?_) (fun c_40 => ?_)
                        ·
                          have dc_40 := i_eq c_40
                          refine wp_bd4 (sf_X6_holdRow hN h_15 h_16 h_17 (by omega) (by omega)) (fun w_39 w_40 w_41 w_42 ⟨q_41, q_42, q_43⟩ => ?_)
                          exact wp_so25 ⟨h_0, h_1, h_2, h_3, h_4, h_5, h_6, h_7, h_8, h_9, h_10, h_11, h_12, h_13, h_14, q_41, q_42, q_43, (by omega)⟩
                        ·
                          have dc_40 := i_ne c_40
                          exact (show False by omega).elim
            ·
              have dc_14 := i_nle c_14
              have n_44 : (-14 : Int32).toInt = -14 := by decide
              exact wp_so25 ⟨h_0, h_1, h_2, h_3, h_4, h_5, h_6, h_7, h_8, h_9, h_10, h_11, h_12, h_13, h_14, h_15, h_16, h_17, (by omega)⟩
          ·
            have dc_12 := i_nle c_12
            have n_45 : (-1 : Int32).toInt = -1 := by decide
            exact wp_so25 ⟨h_0, h_1, h_2, h_3, h_4, h_5, h_6, h_7, h_8, h_9, h_10, h_11, h_12, h_13, h_14, h_15, h_16, h_17, (by omega)⟩
set_option maxHeartbeats 4000000 in
set_option maxRecDepth 20000 in
theorem sz_X9_row_57 {N : Nat} (hN : 700 ≤ N) {x2 : Int32} {x3 : Int32} : ∀ (n : Nat) (x1 : Int32) (x4 : Int32) (v_shelf : List Int32) (v_many : List Int32) (v_items : List Int64), v_shelf.length = 6 → v_many.length = 6 → v_items.length = 360 → zn v_many 0 6 0 61 → 0 ≤ x1.toInt → x1.toInt ≤ 5 → 60 * x1.toInt ≤ x4.toInt → x4.toInt ≤ 60 * x1.toInt + 60 → 0 ≤ x2.toInt → x2.toInt ≤ 4 → 0 ≤ x3.toInt → x3.toInt ≤ 60 → (60 * x1.toInt + 60 - x4.toInt).toNat < n → wp (fX9_row_57 N n x1 x4 v_shelf v_many v_items) (cu4 (fun (r : Int32) (wv_shelf : List Int32) (wv_many : List Int32) (wv_items : List Int64) => wv_shelf.length = 6 ∧ wv_many.length = 6 ∧ wv_items.length = 360 ∧ zn wv_many 0 6 0 61 ∧ ((((0 ≤ x1.toInt ∧ x1.toInt ≤ 5 ∧ 0 ≤ x2.toInt ∧ x2.toInt ≤ 4 ∧ x3.toInt ≤ 60) ∧ 0 ≤ x3.toInt ∧ r.toInt = 1) ∨ ((0 ≤ x1.toInt ∧ x1.toInt ≤ 5 ∧ 0 ≤ x2.toInt ∧ x2.toInt ≤ 4 ∧ x3.toInt ≤ 60) ∧ x3.toInt < 0 ∧ r.toInt = -14) ∨ (¬ (0 ≤ x1.toInt ∧ x1.toInt ≤ 5 ∧ 0 ≤ x2.toInt ∧ x2.toInt ≤ 4 ∧ x3.toInt ≤ 60) ∧ r.toInt = -1))))) := by
  intro n
  induction n with
  | zero =>
    intro x1 x4 v_shelf v_many v_items h_0 h_1 h_2 h_3 h_4 h_5 h_6 h_7 h_8 h_9 h_10 h_11 hm
    exact absurd hm (by omega)
  | succ n ih =>
    intro x1 x4 v_shelf v_many v_items h_0 h_1 h_2 h_3 h_4 h_5 h_6 h_7 h_8 h_9 h_10 h_11 hm
    refine wp_of (uf_X9_row_57 _ _ _ _ _ _ _) ?_
    have n_2 : (60 : Int32).toInt = 60 := by decide
    generalize hz_z : ((60 : Int32) * x1) = z
    have e_3 := i_mulLE (c := 60) (by decide) hz_z (by omega) (by omega)
    generalize hz_z__4 : (z + (60 : Int32)) = z__4
    have e_5 := i_addE hz_z__4 (by omega) (by omega)
    refine wp_if (fun c_1 => ?_) (fun c_1 => ?_)
    ·
      have dc_1 := i_le c_1
      have n_6 : (1 : Int32).toInt = 1 := by decide
      exact wp_so4 ⟨h_0, h_1, h_2, h_3, (by omega)⟩
    ·
      have dc_1 := i_nle c_1
      refine wp_ck (i_inb (by omega) (by omega)) ?_
      refine wp_nm (fun l_17 h_l_17 => ?_)
      have nl_l_17 : l_17.length = 360 := by rw [h_l_17, ls_len]; assumption
      have n_7 : (1 : Int32).toInt = 1 := by decide
      refine wp_nm (fun y_18 h_y_18 => ?_)
      first | have e_8 := i_addE h_y_18.symm (by omega) (by omega) | obtain ⟨k_8, e_8, e1_8, e2_8⟩ := i_addY h_y_18.symm
      exact ih _ _ _ _ _ h_0 h_1 nl_l_17 h_3 h_4 h_5 (by omega) (by omega) h_8 h_9 h_10 h_11 (by omega)
set_option maxHeartbeats 4000000 in
set_option maxRecDepth 20000 in
theorem sz_X9_row {N : Nat} (hN : 700 ≤ N) {x1 : Int32} {x2 : Int32} {x3 : Int32} {v_shelf : List Int32} {v_many : List Int32} {v_items : List Int64} (h_0 : v_shelf.length = 6) (h_1 : v_many.length = 6) (h_2 : v_items.length = 360) (h_3 : zn v_many 0 6 0 61) : wp (fX9_row N x1 x2 x3 v_shelf v_many v_items) (cu4 (fun (r : Int32) (wv_shelf : List Int32) (wv_many : List Int32) (wv_items : List Int64) => wv_shelf.length = 6 ∧ wv_many.length = 6 ∧ wv_items.length = 360 ∧ zn wv_many 0 6 0 61 ∧ ((((0 ≤ x1.toInt ∧ x1.toInt ≤ 5 ∧ 0 ≤ x2.toInt ∧ x2.toInt ≤ 4 ∧ x3.toInt ≤ 60) ∧ 0 ≤ x3.toInt ∧ r.toInt = 1) ∨ ((0 ≤ x1.toInt ∧ x1.toInt ≤ 5 ∧ 0 ≤ x2.toInt ∧ x2.toInt ≤ 4 ∧ x3.toInt ≤ 60) ∧ x3.toInt < 0 ∧ r.toInt = -14) ∨ (¬ (0 ≤ x1.toInt ∧ x1.toInt ≤ 5 ∧ 0 ≤ x2.toInt ∧ x2.toInt ≤ 4 ∧ x3.toInt ≤ 60) ∧ r.toInt = -1))))) := by
  have hb1 : -2147483648 ≤ x1.toInt := Int32.le_toInt x1
  have hb2 : -2147483648 ≤ x2.toInt := Int32.le_toInt x2
  have hb3 : -2147483648 ≤ x3.toInt := Int32.le_toInt x3
  refine wp_of (uf_X9_row _ _ _ _ _ _ _) ?_
  refine wp_bd1 (sz_X9_isShelf hN ) (fun r_1 q_1 => ?_)
  rcases q_1 with ⟨rfl, q_1⟩ | ⟨rfl, q_1⟩
  ·
    refine wp_ifn (by decide) ?_
    have n_2 := i_64 x2
    have n_3 : (0 : Int64).toInt = 0 := by decide
    have n_4 : (4 : Int64).toInt = 4 := by decide
    refine wp_bd1 (sf_X9_within hN ) (fun r_4 q_5 => ?_)
    rcases q_5 with ⟨rfl, q_5⟩ | ⟨rfl, q_5⟩
    ·
      refine wp_ifn (by decide) ?_
      have n_7 : (60 : Int32).toInt = 60 := by decide
      refine wp_if (fun c_6 => ?_) (fun c_6 => ?_)
      ·
        have dc_6 := i_le c_6
        have n_9 : (0 : Int32).toInt = 0 := by decide
        refine wp_if (fun c_8 => ?_) (fun c_8 => ?_)
        ·
          have dc_8 := i_le c_8
          refine wp_nm (fun y_9 _ => ?_)
          refine wp_ck (i_inb (by omega) (by omega)) ?_
          refine wp_nm (fun l_11 h_l_11 => ?_)
          have nl_l_11 : l_11.length = 6 := by rw [h_l_11, is_len]; assumption
          refine wp_ck (i_inb (by omega) (by omega)) ?_
          refine wp_nm (fun l_13 h_l_13 => ?_)
          have nl_l_13 : l_13.length = 6 := by rw [h_l_13, is_len]; assumption
          refine wp_nm (fun y_14 h_y_14 => ?_)
          first | have e_10 := i_mulLE (c := 60) (by decide) h_y_14.symm (by omega) (by omega) | obtain ⟨k_10, e_10, e1_10, e2_10⟩ := i_mulL (c := 60) (by decide) h_y_14.symm
          exact sz_X9_row_57 (x2 := x2) (x3 := x3) hN _ _ _ _ _ _ nl_l_11 nl_l_13 h_2 (by first | assumption | exact zn_nil (by omega) | (rw [h_l_13]; first | exact zn_out h_3 (by omega) (by omega) | exact zn_in h_3 (by omega) (by omega) (by omega) | exact zn_ext h_3 (by omega) (by omega) (by omega) (by omega) (by omega) | exact zn_out (zn_sub h_3 (by omega) (by omega) (by omega) (by omega)) (by omega) (by omega)) | (exfalso; omega)) (by omega) (by omega) (by omega) (by omega) (by omega) (by omega) (by omega) (by omega) (by omega)
        ·
          have dc_8 := i_nle c_8
          have n_11 : (-14 : Int32).toInt = -14 := by decide
          exact wp_so4 ⟨h_0, h_1, h_2, h_3, (by omega)⟩
      ·
        have dc_6 := i_nle c_6
        have n_12 : (-1 : Int32).toInt = -1 := by decide
        exact wp_so4 ⟨h_0, h_1, h_2, h_3, (by omega)⟩
    ·
      refine wp_ifp (by decide) ?_
      have n_13 : (-1 : Int32).toInt = -1 := by decide
      exact wp_so4 ⟨h_0, h_1, h_2, h_3, (by omega)⟩
  ·
    refine wp_ifp (by decide) ?_
    have n_14 : (-1 : Int32).toInt = -1 := by decide
    exact wp_so4 ⟨h_0, h_1, h_2, h_3, (by omega)⟩
set_option maxHeartbeats 4000000 in
set_option maxRecDepth 20000 in
theorem sx8_keep {x1 : Int32} {x2 : Int32} {v_foldings_size : Int32} {v_shelves0_holds : Int32} {v_shelves0_body : Int32} {v_shelves1_holds : Int32} {v_shelves1_body : Int32} {v_shelves2_holds : Int32} {v_shelves2_body : Int32} {v_shelves3_holds : Int32} {v_shelves3_body : Int32} {v_shelves4_holds : Int32} {v_shelves4_body : Int32} {v_shelves5_holds : Int32} {v_shelves5_body : Int32} {v_foldings_kinds : List Int32} {v_foldings_trace : List Int32} (g_0 : gi_fo v_foldings_size v_foldings_kinds v_foldings_trace) : wp (fX8_keep 700 x1 x2 v_foldings_size v_shelves0_holds v_shelves0_body v_shelves1_holds v_shelves1_body v_shelves2_holds v_shelves2_body v_shelves3_holds v_shelves3_body v_shelves4_holds v_shelves4_body v_shelves5_holds v_shelves5_body) (cu13 (fun (r : Int32) (wv_shelves0_holds : Int32) (wv_shelves0_body : Int32) (wv_shelves1_holds : Int32) (wv_shelves1_body : Int32) (wv_shelves2_holds : Int32) (wv_shelves2_body : Int32) (wv_shelves3_holds : Int32) (wv_shelves3_body : Int32) (wv_shelves4_holds : Int32) (wv_shelves4_body : Int32) (wv_shelves5_holds : Int32) (wv_shelves5_body : Int32) => ((((0 ≤ x1.toInt ∧ x1.toInt ≤ 5 ∧ (x2.toInt = -1 ∨ (0 ≤ x2.toInt ∧ x2.toInt < v_foldings_size.toInt))) ∧ r.toInt = 1) ∨ (¬ (0 ≤ x1.toInt ∧ x1.toInt ≤ 5 ∧ (x2.toInt = -1 ∨ (0 ≤ x2.toInt ∧ x2.toInt < v_foldings_size.toInt))) ∧ r.toInt = -1))))) := by
  obtain ⟨a_0_0, a_0_1, a_0_2, a_0_3, a_0_4⟩ := id g_0
  exact wp_cu13 (sz_X8_keep (Nat.le_refl 700) a_0_0 a_0_1) (fun r wv_shelves0_holds wv_shelves0_body wv_shelves1_holds wv_shelves1_body wv_shelves2_holds wv_shelves2_body wv_shelves3_holds wv_shelves3_body wv_shelves4_holds wv_shelves4_body wv_shelves5_holds wv_shelves5_body q_0 => q_0)
set_option maxHeartbeats 4000000 in
set_option maxRecDepth 20000 in
theorem sx9_keep {x1 : Int32} {x2 : Int32} {v_bodies : Int32} {v_shelf : List Int32} {v_many : List Int32} {v_bodyKind : List Int32} {v_trace : List Int32} {v_items : List Int64} {v_carried : List Int64} (g_0 : gm_bo v_bodies v_bodyKind v_trace) (g_1 : gm_sf v_shelf v_many v_items v_carried) : wp (fX9_keep 700 x1 x2 v_bodies v_shelf v_many) (cu3 (fun (r : Int32) (wv_shelf : List Int32) (wv_many : List Int32) => ((((0 ≤ x1.toInt ∧ x1.toInt ≤ 5 ∧ (x2.toInt = -1 ∨ (0 ≤ x2.toInt ∧ x2.toInt < v_bodies.toInt))) ∧ r.toInt = 1) ∨ (¬ (0 ≤ x1.toInt ∧ x1.toInt ≤ 5 ∧ (x2.toInt = -1 ∨ (0 ≤ x2.toInt ∧ x2.toInt < v_bodies.toInt))) ∧ r.toInt = -1))))) := by
  obtain ⟨a_0_0, a_0_1, a_0_2, a_0_3, a_0_4⟩ := id g_0
  obtain ⟨a_1_0, a_1_1, a_1_2, a_1_3, a_1_4⟩ := id g_1
  exact wp_cu3 (sz_X9_keep (Nat.le_refl 700) a_0_0 a_0_1 a_1_0 a_1_1 a_1_4) (fun r wv_shelf wv_many ⟨q_0, q_1, q_2, q_3⟩ => q_3)
set_option maxHeartbeats 4000000 in
set_option maxRecDepth 20000 in
theorem sx8_row {x1 : Int32} {x2 : Int32} {x3 : Int32} {v_shelves0_holds : Int32} {v_shelves0_sort : Int32} {v_shelves0_size : Int32} {v_shelves0_items : List Int64} {v_shelves1_holds : Int32} {v_shelves1_sort : Int32} {v_shelves1_size : Int32} {v_shelves1_items : List Int64} {v_shelves2_holds : Int32} {v_shelves2_sort : Int32} {v_shelves2_size : Int32} {v_shelves2_items : List Int64} {v_shelves3_holds : Int32} {v_shelves3_sort : Int32} {v_shelves3_size : Int32} {v_shelves3_items : List Int64} {v_shelves4_holds : Int32} {v_shelves4_sort : Int32} {v_shelves4_size : Int32} {v_shelves4_items : List Int64} {v_shelves5_holds : Int32} {v_shelves5_sort : Int32} {v_shelves5_size : Int32} {v_shelves5_items : List Int64} (g_0 : gi_sf v_shelves0_size v_shelves0_items) (g_1 : gi_sf v_shelves1_size v_shelves1_items) (g_2 : gi_sf v_shelves2_size v_shelves2_items) (g_3 : gi_sf v_shelves3_size v_shelves3_items) (g_4 : gi_sf v_shelves4_size v_shelves4_items) (g_5 : gi_sf v_shelves5_size v_shelves5_items) : wp (fX8_row 700 x1 x2 x3 v_shelves0_holds v_shelves0_sort v_shelves0_size v_shelves0_items v_shelves1_holds v_shelves1_sort v_shelves1_size v_shelves1_items v_shelves2_holds v_shelves2_sort v_shelves2_size v_shelves2_items v_shelves3_holds v_shelves3_sort v_shelves3_size v_shelves3_items v_shelves4_holds v_shelves4_sort v_shelves4_size v_shelves4_items v_shelves5_holds v_shelves5_sort v_shelves5_size v_shelves5_items) (cu25 (fun (r : Int32) (wv_shelves0_holds : Int32) (wv_shelves0_sort : Int32) (wv_shelves0_size : Int32) (wv_shelves0_items : List Int64) (wv_shelves1_holds : Int32) (wv_shelves1_sort : Int32) (wv_shelves1_size : Int32) (wv_shelves1_items : List Int64) (wv_shelves2_holds : Int32) (wv_shelves2_sort : Int32) (wv_shelves2_size : Int32) (wv_shelves2_items : List Int64) (wv_shelves3_holds : Int32) (wv_shelves3_sort : Int32) (wv_shelves3_size : Int32) (wv_shelves3_items : List Int64) (wv_shelves4_holds : Int32) (wv_shelves4_sort : Int32) (wv_shelves4_size : Int32) (wv_shelves4_items : List Int64) (wv_shelves5_holds : Int32) (wv_shelves5_sort : Int32) (wv_shelves5_size : Int32) (wv_shelves5_items : List Int64) => ((((0 ≤ x1.toInt ∧ x1.toInt ≤ 5 ∧ 0 ≤ x2.toInt ∧ x2.toInt ≤ 4 ∧ x3.toInt ≤ 60) ∧ 0 ≤ x3.toInt ∧ r.toInt = 1) ∨ ((0 ≤ x1.toInt ∧ x1.toInt ≤ 5 ∧ 0 ≤ x2.toInt ∧ x2.toInt ≤ 4 ∧ x3.toInt ≤ 60) ∧ x3.toInt < 0 ∧ r.toInt = -14) ∨ (¬ (0 ≤ x1.toInt ∧ x1.toInt ≤ 5 ∧ 0 ≤ x2.toInt ∧ x2.toInt ≤ 4 ∧ x3.toInt ≤ 60) ∧ r.toInt = -1))))) := by
  obtain ⟨a_0_0, a_0_1, a_0_2⟩ := id g_0
  obtain ⟨a_1_0, a_1_1, a_1_2⟩ := id g_1
  obtain ⟨a_2_0, a_2_1, a_2_2⟩ := id g_2
  obtain ⟨a_3_0, a_3_1, a_3_2⟩ := id g_3
  obtain ⟨a_4_0, a_4_1, a_4_2⟩ := id g_4
  obtain ⟨a_5_0, a_5_1, a_5_2⟩ := id g_5
  exact wp_cu25 (sz_X8_row (Nat.le_refl 700) a_0_0 a_0_1 a_0_2 a_1_0 a_1_1 a_1_2 a_2_0 a_2_1 a_2_2 a_3_0 a_3_1 a_3_2 a_4_0 a_4_1 a_4_2 a_5_0 a_5_1 a_5_2) (fun r wv_shelves0_holds wv_shelves0_sort wv_shelves0_size wv_shelves0_items wv_shelves1_holds wv_shelves1_sort wv_shelves1_size wv_shelves1_items wv_shelves2_holds wv_shelves2_sort wv_shelves2_size wv_shelves2_items wv_shelves3_holds wv_shelves3_sort wv_shelves3_size wv_shelves3_items wv_shelves4_holds wv_shelves4_sort wv_shelves4_size wv_shelves4_items wv_shelves5_holds wv_shelves5_sort wv_shelves5_size wv_shelves5_items ⟨q_0, q_1, q_2, q_3, q_4, q_5, q_6, q_7, q_8, q_9, q_10, q_11, q_12, q_13, q_14, q_15, q_16, q_17, q_18⟩ => q_18)
set_option maxHeartbeats 4000000 in
set_option maxRecDepth 20000 in
theorem sx9_row {x1 : Int32} {x2 : Int32} {x3 : Int32} {v_shelf : List Int32} {v_many : List Int32} {v_items : List Int64} {v_carried : List Int64} (g_0 : gm_sf v_shelf v_many v_items v_carried) : wp (fX9_row 700 x1 x2 x3 v_shelf v_many v_items) (cu4 (fun (r : Int32) (wv_shelf : List Int32) (wv_many : List Int32) (wv_items : List Int64) => ((((0 ≤ x1.toInt ∧ x1.toInt ≤ 5 ∧ 0 ≤ x2.toInt ∧ x2.toInt ≤ 4 ∧ x3.toInt ≤ 60) ∧ 0 ≤ x3.toInt ∧ r.toInt = 1) ∨ ((0 ≤ x1.toInt ∧ x1.toInt ≤ 5 ∧ 0 ≤ x2.toInt ∧ x2.toInt ≤ 4 ∧ x3.toInt ≤ 60) ∧ x3.toInt < 0 ∧ r.toInt = -14) ∨ (¬ (0 ≤ x1.toInt ∧ x1.toInt ≤ 5 ∧ 0 ≤ x2.toInt ∧ x2.toInt ≤ 4 ∧ x3.toInt ≤ 60) ∧ r.toInt = -1))))) := by
  obtain ⟨a_0_0, a_0_1, a_0_2, a_0_3, a_0_4⟩ := id g_0
  exact wp_cu4 (sz_X9_row (Nat.le_refl 700) a_0_0 a_0_1 a_0_2 a_0_4) (fun r wv_shelf wv_many wv_items ⟨q_0, q_1, q_2, q_3, q_4⟩ => q_4)
theorem rs_keep {x1 : Int32} {x2 : Int32} {v_foldings_size : Int32} {v_shelves0_holds : Int32} {v_shelves0_body : Int32} {v_shelves1_holds : Int32} {v_shelves1_body : Int32} {v_shelves2_holds : Int32} {v_shelves2_body : Int32} {v_shelves3_holds : Int32} {v_shelves3_body : Int32} {v_shelves4_holds : Int32} {v_shelves4_body : Int32} {v_shelves5_holds : Int32} {v_shelves5_body : Int32} {v_foldings_kinds : List Int32} {v_foldings_trace : List Int32} {m_bodies : Int32} {m_shelf : List Int32} {m_many : List Int32} {m_bodyKind : List Int32} {m_trace : List Int32} {m_items : List Int64} {m_carried : List Int64} (g8_0 : gi_fo v_foldings_size v_foldings_kinds v_foldings_trace) (g9_0 : gm_bo m_bodies m_bodyKind m_trace) (g9_1 : gm_sf m_shelf m_many m_items m_carried) (hr_0 : rl_bo v_foldings_size v_foldings_kinds m_bodies m_bodyKind) : ∃ (r : Int32) (p_shelves0_holds : Int32) (p_shelves0_body : Int32) (p_shelves1_holds : Int32) (p_shelves1_body : Int32) (p_shelves2_holds : Int32) (p_shelves2_body : Int32) (p_shelves3_holds : Int32) (p_shelves3_body : Int32) (p_shelves4_holds : Int32) (p_shelves4_body : Int32) (p_shelves5_holds : Int32) (p_shelves5_body : Int32) (q_shelf : List Int32) (q_many : List Int32), fX8_keep 700 x1 x2 v_foldings_size v_shelves0_holds v_shelves0_body v_shelves1_holds v_shelves1_body v_shelves2_holds v_shelves2_body v_shelves3_holds v_shelves3_body v_shelves4_holds v_shelves4_body v_shelves5_holds v_shelves5_body = some (r, p_shelves0_holds, p_shelves0_body, p_shelves1_holds, p_shelves1_body, p_shelves2_holds, p_shelves2_body, p_shelves3_holds, p_shelves3_body, p_shelves4_holds, p_shelves4_body, p_shelves5_holds, p_shelves5_body) ∧ fX9_keep 700 x1 x2 m_bodies m_shelf m_many = some (r, q_shelf, q_many) ∧ gm_sf q_shelf q_many m_items m_carried ∧ rl_bo v_foldings_size v_foldings_kinds m_bodies m_bodyKind := by
  obtain ⟨rfl, rfl⟩ := id hr_0
  obtain ⟨⟨r8, p0, p1, p2, p3, p4, p5, p6, p7, p8, p9, p10, p11⟩, e8, h8⟩ := sx8_keep (x1 := x1) (x2 := x2) (v_shelves0_holds := v_shelves0_holds) (v_shelves0_body := v_shelves0_body) (v_shelves1_holds := v_shelves1_holds) (v_shelves1_body := v_shelves1_body) (v_shelves2_holds := v_shelves2_holds) (v_shelves2_body := v_shelves2_body) (v_shelves3_holds := v_shelves3_holds) (v_shelves3_body := v_shelves3_body) (v_shelves4_holds := v_shelves4_holds) (v_shelves4_body := v_shelves4_body) (v_shelves5_holds := v_shelves5_holds) (v_shelves5_body := v_shelves5_body) g8_0
  obtain ⟨⟨r9, q0, q1⟩, e9, h9⟩ := sx9_keep (x1 := x1) (x2 := x2)  g9_0 g9_1
  simp only [cu13] at h8
  simp only [cu3] at h9
  have er : r9 = r8 := ti_eq (by omega)
  subst er
  have k8 := wp_get (st8_keep g8_0) e8
  have k9 := wp_get (st9_keep g9_0 g9_1) e9
  exact ⟨_, _, _, _, _, _, _, _, _, _, _, _, _, _, _, e8, e9, k9, hr_0⟩
theorem rs_row {x1 : Int32} {x2 : Int32} {x3 : Int32} {v_shelves0_holds : Int32} {v_shelves0_sort : Int32} {v_shelves0_size : Int32} {v_shelves0_items : List Int64} {v_shelves1_holds : Int32} {v_shelves1_sort : Int32} {v_shelves1_size : Int32} {v_shelves1_items : List Int64} {v_shelves2_holds : Int32} {v_shelves2_sort : Int32} {v_shelves2_size : Int32} {v_shelves2_items : List Int64} {v_shelves3_holds : Int32} {v_shelves3_sort : Int32} {v_shelves3_size : Int32} {v_shelves3_items : List Int64} {v_shelves4_holds : Int32} {v_shelves4_sort : Int32} {v_shelves4_size : Int32} {v_shelves4_items : List Int64} {v_shelves5_holds : Int32} {v_shelves5_sort : Int32} {v_shelves5_size : Int32} {v_shelves5_items : List Int64} {m_shelf : List Int32} {m_many : List Int32} {m_items : List Int64} {m_carried : List Int64} (g8_0 : gi_sf v_shelves0_size v_shelves0_items) (g8_1 : gi_sf v_shelves1_size v_shelves1_items) (g8_2 : gi_sf v_shelves2_size v_shelves2_items) (g8_3 : gi_sf v_shelves3_size v_shelves3_items) (g8_4 : gi_sf v_shelves4_size v_shelves4_items) (g8_5 : gi_sf v_shelves5_size v_shelves5_items) (g9_0 : gm_sf m_shelf m_many m_items m_carried) : ∃ (r : Int32) (p_shelves0_holds : Int32) (p_shelves0_sort : Int32) (p_shelves0_size : Int32) (p_shelves0_items : List Int64) (p_shelves1_holds : Int32) (p_shelves1_sort : Int32) (p_shelves1_size : Int32) (p_shelves1_items : List Int64) (p_shelves2_holds : Int32) (p_shelves2_sort : Int32) (p_shelves2_size : Int32) (p_shelves2_items : List Int64) (p_shelves3_holds : Int32) (p_shelves3_sort : Int32) (p_shelves3_size : Int32) (p_shelves3_items : List Int64) (p_shelves4_holds : Int32) (p_shelves4_sort : Int32) (p_shelves4_size : Int32) (p_shelves4_items : List Int64) (p_shelves5_holds : Int32) (p_shelves5_sort : Int32) (p_shelves5_size : Int32) (p_shelves5_items : List Int64) (q_shelf : List Int32) (q_many : List Int32) (q_items : List Int64), fX8_row 700 x1 x2 x3 v_shelves0_holds v_shelves0_sort v_shelves0_size v_shelves0_items v_shelves1_holds v_shelves1_sort v_shelves1_size v_shelves1_items v_shelves2_holds v_shelves2_sort v_shelves2_size v_shelves2_items v_shelves3_holds v_shelves3_sort v_shelves3_size v_shelves3_items v_shelves4_holds v_shelves4_sort v_shelves4_size v_shelves4_items v_shelves5_holds v_shelves5_sort v_shelves5_size v_shelves5_items = some (r, p_shelves0_holds, p_shelves0_sort, p_shelves0_size, p_shelves0_items, p_shelves1_holds, p_shelves1_sort, p_shelves1_size, p_shelves1_items, p_shelves2_holds, p_shelves2_sort, p_shelves2_size, p_shelves2_items, p_shelves3_holds, p_shelves3_sort, p_shelves3_size, p_shelves3_items, p_shelves4_holds, p_shelves4_sort, p_shelves4_size, p_shelves4_items, p_shelves5_holds, p_shelves5_sort, p_shelves5_size, p_shelves5_items) ∧ fX9_row 700 x1 x2 x3 m_shelf m_many m_items = some (r, q_shelf, q_many, q_items) ∧ gi_sf p_shelves0_size p_shelves0_items ∧ gi_sf p_shelves1_size p_shelves1_items ∧ gi_sf p_shelves2_size p_shelves2_items ∧ gi_sf p_shelves3_size p_shelves3_items ∧ gi_sf p_shelves4_size p_shelves4_items ∧ gi_sf p_shelves5_size p_shelves5_items ∧ gm_sf q_shelf q_many q_items m_carried := by
  obtain ⟨⟨r8, p0, p1, p2, p3, p4, p5, p6, p7, p8, p9, p10, p11, p12, p13, p14, p15, p16, p17, p18, p19, p20, p21, p22, p23⟩, e8, h8⟩ := sx8_row (x1 := x1) (x2 := x2) (x3 := x3) (v_shelves0_holds := v_shelves0_holds) (v_shelves0_sort := v_shelves0_sort) (v_shelves1_holds := v_shelves1_holds) (v_shelves1_sort := v_shelves1_sort) (v_shelves2_holds := v_shelves2_holds) (v_shelves2_sort := v_shelves2_sort) (v_shelves3_holds := v_shelves3_holds) (v_shelves3_sort := v_shelves3_sort) (v_shelves4_holds := v_shelves4_holds) (v_shelves4_sort := v_shelves4_sort) (v_shelves5_holds := v_shelves5_holds) (v_shelves5_sort := v_shelves5_sort) g8_0 g8_1 g8_2 g8_3 g8_4 g8_5
  obtain ⟨⟨r9, q0, q1, q2⟩, e9, h9⟩ := sx9_row (x1 := x1) (x2 := x2) (x3 := x3)  g9_0
  simp only [cu25] at h8
  simp only [cu4] at h9
  have er : r9 = r8 := ti_eq (by omega)
  subst er
  have k8 := wp_get (st8_row g8_0 g8_1 g8_2 g8_3 g8_4 g8_5) e8
  have k9 := wp_get (st9_row g9_0) e9
  exact ⟨_, _, _, _, _, _, _, _, _, _, _, _, _, _, _, _, _, _, _, _, _, _, _, _, _, _, _, _, e8, e9, k8.1, k8.2.1, k8.2.2.1, k8.2.2.2.1, k8.2.2.2.2.1, k8.2.2.2.2.2, k9⟩
