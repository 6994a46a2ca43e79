/-! The tape behind law; the sheet behind sheet -/
theorem i_dneg {x y : Int32} (h : y = x / (10 : Int32)) (hx : x.toInt < 0) : y.toInt ≤ 0 := by
  rw [h, Int32.toInt_div_of_ne_right x (10 : Int32) (by decide), show (10 : Int32).toInt = 10 by decide]
  have e : x.toInt = -(-x.toInt) := by omega
  rw [e, Int.neg_tdiv]
  have k : 0 ≤ (-x.toInt).tdiv 10 := Int.tdiv_nonneg (by omega) (by omega)
  omega
set_option maxHeartbeats 4000000 in
set_option maxRecDepth 20000 in
theorem sz_X2_readTape_21 {N : Nat} (hN : 700 ≤ N)  : ∀ (n : Nat) (x1 : Int32) (v_size : Int32) (v_stepCount : Int32) (v_draftCount : Int32) (v_place : Int32) (v_fault : Int32) (v_tape : List Int32) (v_steps : List Int32) (v_draft : List Int32), 0 ≤ v_size.toInt → v_size.toInt ≤ 120 → 0 ≤ v_stepCount.toInt → v_stepCount.toInt ≤ 121 → 0 ≤ v_draftCount.toInt → v_draftCount.toInt ≤ 121 → v_tape.length = 120 → v_steps.length = 121 → v_draft.length = 121 → 0 ≤ v_place.toInt → v_place.toInt ≤ v_size.toInt → 0 ≤ x1.toInt → x1.toInt ≤ 120 → (120 - x1.toInt).toNat < n → wp (fX2_readTape_21 N n x1 v_size v_stepCount v_draftCount v_place v_fault v_tape v_steps v_draft) (cu8 (fun (r : Int32) (wv_size : Int32) (wv_stepCount : Int32) (wv_draftCount : Int32) (wv_place : Int32) (wv_fault : Int32) (wv_steps : List Int32) (wv_draft : List Int32) => 0 ≤ wv_size.toInt ∧ wv_size.toInt ≤ 120 ∧ 0 ≤ wv_stepCount.toInt ∧ wv_stepCount.toInt ≤ 121 ∧ 0 ≤ wv_draftCount.toInt ∧ wv_draftCount.toInt ≤ 121 ∧ wv_steps.length = 121 ∧ wv_draft.length = 121 ∧ wv_size.toInt = 0)) := by
  intro n
  induction n with
  | zero =>
    intro x1 v_size v_stepCount v_draftCount v_place v_fault v_tape v_steps v_draft h_0 h_1 h_2 h_3 h_4 h_5 h_6 h_7 h_8 h_9 h_10 h_11 h_12 hm
    exact absurd hm (by omega)
  | succ n ih =>
    intro x1 v_size v_stepCount v_draftCount v_place v_fault v_tape v_steps v_draft h_0 h_1 h_2 h_3 h_4 h_5 h_6 h_7 h_8 h_9 h_10 h_11 h_12 hm
    refine wp_of (uf_X2_readTape_21 _ _ _ _ _ _ _ _ _ _ _) ?_
    have n_2 : (120 : Int32).toInt = 120 := by decide
    refine wp_if (fun c_1 => ?_) (fun c_1 => ?_)
    ·
      have dc_1 := i_le c_1
      refine wp_of (uf_X2_readTape_56 _ _ _ _ _ _ _ _ _) ?_
      refine wp_if (fun c_3 => ?_) (fun c_3 => ?_)
      ·
        have dc_3 := i_le c_3
        refine wp_of (uf_X2_readTape_71 _ _ _ _ _ _ _ _ _) ?_
        have n_5 : (0 : Int32).toInt = 0 := by decide
        refine wp_if (fun c_4 => ?_) (fun c_4 => ?_)
        ·
          have dc_4 := i_le c_4
          refine wp_of (uf_X2_readTape_108 _ _ _ _ _ _ _ _ _) ?_
          exact wp_so8 ⟨(by omega), (by omega), h_2, h_3, h_4, h_5, h_7, h_8, (by omega)⟩
        ·
          have dc_4 := i_nle c_4
          have hc_6 : (mm_cok (0 : Int32) (0 : Int32) v_draftCount v_draft.length v_steps.length) = true := i_cok (by omega) (by omega) (by omega) (by omega) (by omega)
          refine wp_ck hc_6 ?_
          refine wp_nm (fun l_22 h_l_22 => ?_)
          have nl_l_22 : l_22.length = 121 := by rw [h_l_22, cp_len hc_6]; assumption
          refine wp_of (uf_X2_readTape_108 _ _ _ _ _ _ _ _ _) ?_
          exact wp_so8 ⟨(by omega), (by omega), h_4, h_5, h_4, h_5, nl_l_22, h_8, (by omega)⟩
      ·
        have dc_3 := i_nle c_3
        refine wp_bd1 (sf_X2_fail hN ) (fun w_18 _ => ?_)
        refine wp_of (uf_X2_readTape_71 _ _ _ _ _ _ _ _ _) ?_
        have n_8 : (0 : Int32).toInt = 0 := by decide
        refine wp_if (fun c_7 => ?_) (fun c_7 => ?_)
        ·
          have dc_7 := i_le c_7
          refine wp_of (uf_X2_readTape_108 _ _ _ _ _ _ _ _ _) ?_
          exact wp_so8 ⟨(by omega), (by omega), h_2, h_3, h_4, h_5, h_7, h_8, (by omega)⟩
        ·
          have dc_7 := i_nle c_7
          have hc_9 : (mm_cok (0 : Int32) (0 : Int32) v_draftCount v_draft.length v_steps.length) = true := i_cok (by omega) (by omega) (by omega) (by omega) (by omega)
          refine wp_ck hc_9 ?_
          refine wp_nm (fun l_22__10 h_l_22__10 => ?_)
          have nl_l_22__10 : l_22__10.length = 121 := by rw [h_l_22__10, cp_len hc_9]; assumption
          refine wp_of (uf_X2_readTape_108 _ _ _ _ _ _ _ _ _) ?_
          exact wp_so8 ⟨(by omega), (by omega), h_4, h_5, h_4, h_5, nl_l_22__10, h_8, (by omega)⟩
    ·
      have dc_1 := i_nle c_1
      have n_11 : (59 : Int32).toInt = 59 := by decide
      refine wp_bd1 (sf_X2_meets hN h_0 h_1 h_6 h_9 (by omega)) (fun r_7 q_12 => ?_)
      rcases q_12 with ⟨rfl, q_12⟩ | ⟨rfl, q_12⟩
      ·
        refine wp_ifn (by decide) ?_
        have n_13 : (1 : Int32).toInt = 1 := by decide
        refine wp_nm (fun y_10 h_y_10 => ?_)
        have e_14 := i_addE h_y_10.symm (by omega) (by omega)
        refine wp_bd4 (sf_X2_readLine hN h_0 h_1 h_4 h_5 h_6 h_8 (by omega) (by omega)) (fun w_11 w_12 w_13 w_14 ⟨q_15, q_16, q_17, q_18, q_19⟩ => ?_)
        refine wp_nm (fun y_16 h_y_16 => ?_)
        have e_20 := i_addE h_y_16.symm (by omega) (by omega)
        exact ih _ _ _ _ _ _ _ _ _ h_0 h_1 h_2 h_3 q_15 q_16 h_6 h_7 q_17 (by omega) q_19 (by omega) (by omega) (by omega)
      ·
        refine wp_ifp (by decide) ?_
        refine wp_of (uf_X2_readTape_56 _ _ _ _ _ _ _ _ _) ?_
        refine wp_if (fun c_21 => ?_) (fun c_21 => ?_)
        ·
          have dc_21 := i_le c_21
          refine wp_of (uf_X2_readTape_71 _ _ _ _ _ _ _ _ _) ?_
          have n_23 : (0 : Int32).toInt = 0 := by decide
          refine wp_if (fun c_22 => ?_) (fun c_22 => ?_)
          ·
            have dc_22 := i_le c_22
            refine wp_of (uf_X2_readTape_108 _ _ _ _ _ _ _ _ _) ?_
            exact wp_so8 ⟨(by omega), (by omega), h_2, h_3, h_4, h_5, h_7, h_8, (by omega)⟩
          ·
            have dc_22 := i_nle c_22
            have hc_24 : (mm_cok (0 : Int32) (0 : Int32) v_draftCount v_draft.length v_steps.length) = true := i_cok (by omega) (by omega) (by omega) (by omega) (by omega)
            refine wp_ck hc_24 ?_
            refine wp_nm (fun l_22__25 h_l_22__25 => ?_)
            have nl_l_22__25 : l_22__25.length = 121 := by rw [h_l_22__25, cp_len hc_24]; assumption
            refine wp_of (uf_X2_readTape_108 _ _ _ _ _ _ _ _ _) ?_
            exact wp_so8 ⟨(by omega), (by omega), h_4, h_5, h_4, h_5, nl_l_22__25, h_8, (by omega)⟩
        ·
          have dc_21 := i_nle c_21
          refine wp_bd1 (sf_X2_fail hN ) (fun w_18__26 _ => ?_)
          refine wp_of (uf_X2_readTape_71 _ _ _ _ _ _ _ _ _) ?_
          have n_28 : (0 : Int32).toInt = 0 := by decide
          refine wp_if (fun c_27 => ?_) (fun c_27 => ?_)
          ·
            have dc_27 := i_le c_27
            refine wp_of (uf_X2_readTape_108 _ _ _ _ _ _ _ _ _) ?_
            exact wp_so8 ⟨(by omega), (by omega), h_2, h_3, h_4, h_5, h_7, h_8, (by omega)⟩
          ·
            have dc_27 := i_nle c_27
            have hc_29 : (mm_cok (0 : Int32) (0 : Int32) v_draftCount v_draft.length v_steps.length) = true := i_cok (by omega) (by omega) (by omega) (by omega) (by omega)
            refine wp_ck hc_29 ?_
            refine wp_nm (fun l_22__30 h_l_22__30 => ?_)
            have nl_l_22__30 : l_22__30.length = 121 := by rw [h_l_22__30, cp_len hc_29]; assumption
            refine wp_of (uf_X2_readTape_108 _ _ _ _ _ _ _ _ _) ?_
            exact wp_so8 ⟨(by omega), (by omega), h_4, h_5, h_4, h_5, nl_l_22__30, h_8, (by omega)⟩
set_option maxHeartbeats 4000000 in
set_option maxRecDepth 20000 in
theorem sz_X2_readTape {N : Nat} (hN : 700 ≤ N) {v_size : Int32} {v_stepCount : Int32} {v_draftCount : Int32} {v_place : Int32} {v_fault : Int32} {v_tape : List Int32} {v_steps : List Int32} {v_draft : List Int32} (h_0 : 0 ≤ v_size.toInt) (h_1 : v_size.toInt ≤ 120) (h_2 : 0 ≤ v_stepCount.toInt) (h_3 : v_stepCount.toInt ≤ 121) (h_4 : 0 ≤ v_draftCount.toInt) (h_5 : v_draftCount.toInt ≤ 121) (h_6 : v_tape.length = 120) (h_7 : v_steps.length = 121) (h_8 : v_draft.length = 121) : wp (fX2_readTape N v_size v_stepCount v_draftCount v_place v_fault v_tape v_steps v_draft) (cu8 (fun (r : Int32) (wv_size : Int32) (wv_stepCount : Int32) (wv_draftCount : Int32) (wv_place : Int32) (wv_fault : Int32) (wv_steps : List Int32) (wv_draft : List Int32) => 0 ≤ wv_size.toInt ∧ wv_size.toInt ≤ 120 ∧ 0 ≤ wv_stepCount.toInt ∧ wv_stepCount.toInt ≤ 121 ∧ 0 ≤ wv_draftCount.toInt ∧ wv_draftCount.toInt ≤ 121 ∧ wv_steps.length = 121 ∧ wv_draft.length = 121 ∧ wv_size.toInt = 0)) := by
  refine wp_of (uf_X2_readTape _ _ _ _ _ _ _ _ _) ?_
  have n_1 : (0 : Int32).toInt = 0 := by decide
  refine wp_bd4 (sf_X2_readLine hN h_0 h_1 (by omega) (by omega) h_6 h_8 (by omega) (by omega)) (fun w_1 w_2 w_3 w_4 ⟨q_2, q_3, q_4, q_5, q_6⟩ => ?_)
  exact sz_X2_readTape_21 hN _ _ _ _ _ _ _ _ _ _ h_0 h_1 h_2 h_3 q_2 q_3 h_6 h_7 q_4 (by omega) q_6 (by omega) (by omega) (by omega)
set_option maxHeartbeats 4000000 in
set_option maxRecDepth 20000 in
theorem sz_X8_law {N : Nat} (hN : 700 ≤ N) {v_wearing_size : Int32} {v_wearing_stepCount : Int32} {v_wearing_draftCount : Int32} {v_wearing_place : Int32} {v_wearing_fault : Int32} {v_wearing_tape : List Int32} {v_wearing_steps : List Int32} {v_wearing_draft : List Int32} (h_0 : 0 ≤ v_wearing_size.toInt) (h_1 : v_wearing_size.toInt ≤ 120) (h_2 : 0 ≤ v_wearing_stepCount.toInt) (h_3 : v_wearing_stepCount.toInt ≤ 121) (h_4 : 0 ≤ v_wearing_draftCount.toInt) (h_5 : v_wearing_draftCount.toInt ≤ 121) (h_6 : v_wearing_tape.length = 120) (h_7 : v_wearing_steps.length = 121) (h_8 : v_wearing_draft.length = 121) : wp (fX8_law N v_wearing_size v_wearing_stepCount v_wearing_draftCount v_wearing_place v_wearing_fault v_wearing_tape v_wearing_steps v_wearing_draft) (cu8 (fun (r : Int32) (wv_wearing_size : Int32) (wv_wearing_stepCount : Int32) (wv_wearing_draftCount : Int32) (wv_wearing_place : Int32) (wv_wearing_fault : Int32) (wv_wearing_steps : List Int32) (wv_wearing_draft : List Int32) => 0 ≤ wv_wearing_size.toInt ∧ wv_wearing_size.toInt ≤ 120 ∧ 0 ≤ wv_wearing_stepCount.toInt ∧ wv_wearing_stepCount.toInt ≤ 121 ∧ 0 ≤ wv_wearing_draftCount.toInt ∧ wv_wearing_draftCount.toInt ≤ 121 ∧ wv_wearing_steps.length = 121 ∧ wv_wearing_draft.length = 121 ∧ wv_wearing_size.toInt = 0)) := by
  refine wp_of (uf_X8_law _ _ _ _ _ _ _ _ _) ?_
  refine wp_bd8 (sz_X2_readTape hN h_0 h_1 h_2 h_3 h_4 h_5 h_6 h_7 h_8) (fun r_1 w_2 w_3 w_4 w_5 w_6 w_7 w_8 ⟨q_1, q_2, q_3, q_4, q_5, q_6, q_7, q_8, q_9⟩ => ?_)
  have n_11 : (0 : Int32).toInt = 0 := by decide
  refine wp_if (fun c_10 => ?_) (fun c_10 => ?_)
  ·
    have dc_10 := i_le c_10
    exact wp_so8 ⟨q_1, q_2, q_3, q_4, q_5, q_6, q_7, q_8, q_9⟩
  ·
    have dc_10 := i_nle c_10
    exact wp_so8 ⟨q_1, q_2, q_3, q_4, q_5, q_6, q_7, q_8, q_9⟩
set_option maxHeartbeats 4000000 in
set_option maxRecDepth 20000 in
theorem sz_X9_law_37 {N : Nat} (hN : 700 ≤ N)  : ∀ (n : Nat) (x2 : Int32) (x3 : Int32) (v_tapeMany : Int32) (v_textMany : Int32) (v_base : Int32) (v_at : Int32) (v_ends : Int32) (v_fault : Int32) (v_opened : Int32) (v_tape : List Int32) (v_text : List Int32) (v_names : List Int32), 0 ≤ v_tapeMany.toInt → v_tapeMany.toInt ≤ 120 → -1 ≤ v_textMany.toInt → v_textMany.toInt ≤ 120 → v_tape.length = 120 → v_text.length = 120 → v_names.length = 6 → 0 ≤ x2.toInt → x2.toInt ≤ 120 → 0 ≤ x3.toInt → x3.toInt ≤ 120 → v_tapeMany.toInt = 0 → (121 - x3.toInt).toNat < n → wp (fX9_law_37 N n x2 x3 v_tapeMany v_textMany v_base v_at v_ends v_fault v_opened v_tape v_text v_names) (cu9 (fun (r : Int32) (wv_tapeMany : Int32) (wv_textMany : Int32) (wv_base : Int32) (wv_at : Int32) (wv_ends : Int32) (wv_fault : Int32) (wv_opened : Int32) (wv_text : List Int32) => 0 ≤ wv_tapeMany.toInt ∧ wv_tapeMany.toInt ≤ 120 ∧ -1 ≤ wv_textMany.toInt ∧ wv_textMany.toInt ≤ 120 ∧ wv_text.length = 120 ∧ wv_tapeMany.toInt = 0)) := by
  intro n
  induction n with
  | zero =>
    intro x2 x3 v_tapeMany v_textMany v_base v_at v_ends v_fault v_opened v_tape v_text v_names h_0 h_1 h_2 h_3 h_4 h_5 h_6 h_7 h_8 h_9 h_10 h_11 hm
    exact absurd hm (by omega)
  | succ n ih =>
    intro x2 x3 v_tapeMany v_textMany v_base v_at v_ends v_fault v_opened v_tape v_text v_names h_0 h_1 h_2 h_3 h_4 h_5 h_6 h_7 h_8 h_9 h_10 h_11 hm
    refine wp_of (uf_X9_law_37 _ _ _ _ _ _ _ _ _ _ _ _ _ _) ?_
    refine wp_if (fun c_1 => ?_) (fun c_1 => ?_)
    ·
      have dc_1 := i_le c_1
      exact wp_so9 ⟨h_0, h_1, (by omega), h_8, h_5, h_11⟩
    ·
      have dc_1 := i_nle c_1
      refine wp_ck (i_inb (by omega) (by omega)) ?_
      refine wp_nm (fun y_11 h_y_11 => ?_)
      have t_y_11 : y_11.toInt = ((mm_ig v_tape x3)).toInt := by rw [h_y_11]
      refine wp_ck (i_inb (by omega) (by omega)) ?_
      refine wp_nm (fun l_13 h_l_13 => ?_)
      have nl_l_13 : l_13.length = 120 := by rw [h_l_13, is_len]; assumption
      have n_2 : (1 : Int32).toInt = 1 := by decide
      refine wp_nm (fun y_14 h_y_14 => ?_)
      have e_3 := i_addE h_y_14.symm (by omega) (by omega)
      exact ih _ _ _ _ _ _ _ _ _ _ _ _ h_0 h_1 h_2 h_3 h_4 nl_l_13 h_6 h_7 h_8 (by omega) (by omega) h_11 (by omega)
set_option maxHeartbeats 4000000 in
set_option maxRecDepth 20000 in
theorem sz_X9_law {N : Nat} (hN : 700 ≤ N) {v_tapeMany : Int32} {v_textMany : Int32} {v_base : Int32} {v_at : Int32} {v_ends : Int32} {v_fault : Int32} {v_opened : Int32} {v_tape : List Int32} {v_text : List Int32} {v_names : List Int32} (h_0 : 0 ≤ v_tapeMany.toInt) (h_1 : v_tapeMany.toInt ≤ 120) (h_2 : -1 ≤ v_textMany.toInt) (h_3 : v_textMany.toInt ≤ 120) (h_4 : v_tape.length = 120) (h_5 : v_text.length = 120) (h_6 : v_names.length = 6) : wp (fX9_law N v_tapeMany v_textMany v_base v_at v_ends v_fault v_opened v_tape v_text v_names) (cu9 (fun (r : Int32) (wv_tapeMany : Int32) (wv_textMany : Int32) (wv_base : Int32) (wv_at : Int32) (wv_ends : Int32) (wv_fault : Int32) (wv_opened : Int32) (wv_text : List Int32) => 0 ≤ wv_tapeMany.toInt ∧ wv_tapeMany.toInt ≤ 120 ∧ -1 ≤ wv_textMany.toInt ∧ wv_textMany.toInt ≤ 120 ∧ wv_text.length = 120 ∧ wv_tapeMany.toInt = 0)) := by
  refine wp_of (uf_X9_law _ _ _ _ _ _ _ _ _ _ _) ?_
  have n_1 : (-1 : Int32).toInt = -1 := by decide
  refine wp_bd6 (sf_X9_workOut hN h_4 h_5 h_6 (by omega) (by omega) h_0 h_1) (fun r_1 w_2 w_3 w_4 w_5 w_6 _ => ?_)
  have n_3 : (0 : Int32).toInt = 0 := by decide
  refine wp_if (fun c_2 => ?_) (fun c_2 => ?_)
  ·
    have dc_2 := i_lt c_2
    exact sz_X9_law_37 hN _ _ _ _ _ _ _ _ _ _ _ _ _ (by omega) (by omega) h_2 h_3 h_4 h_5 h_6 h_0 h_1 (by omega) (by omega) (by omega) (by omega)
  ·
    have dc_2 := i_nlt c_2
    exact wp_so9 ⟨(by omega), (by omega), h_2, h_3, h_5, (by omega)⟩
set_option maxHeartbeats 4000000 in
set_option maxRecDepth 20000 in
theorem sz_X9_isNew_17 {N : Nat} (hN : 700 ≤ N) {u_row : List Int32} {u_col : List Int32} {u_sR : List Int32} {u_sC : List Int32} {A : Int} {B9 : Int} {a9 : Int} {b9 : Int} {R0 : Int32} {C0 : Int32} : ∀ (n : Nat) (x3 : Int32) (v_rowsOf : Int32) (v_columnsOf : Int32) (v_folded : Int32) (v_wronged : Int32) (v_shapeRows : List Int32) (v_shapeColumns : List Int32) (v_row : List Int32) (v_column : List Int32) (v_below : List Int32) (v_face : List Int32) (v_worn : List Int32) (v_lastBend : List Int32), 1 ≤ v_rowsOf.toInt → v_rowsOf.toInt ≤ 4 → 1 ≤ v_columnsOf.toInt → v_columnsOf.toInt ≤ 8 → v_shapeRows.length = 6 → v_shapeColumns.length = 6 → v_row.length = 192 → v_column.length = 192 → v_below.length = 192 → v_face.length = 192 → v_worn.length = 384 → v_lastBend.length = 384 → fr u_row v_row A B9 → fr u_col v_column A B9 → fr u_sR v_shapeRows a9 b9 → fr u_sC v_shapeColumns a9 b9 → A ≤ 32 * (0 : Int32).toInt → 32 * (0 : Int32).toInt + 32 ≤ B9 → a9 ≤ (0 : Int32).toInt → (0 : Int32).toInt < b9 → lv9 v_rowsOf v_columnsOf v_shapeRows v_shapeColumns v_row v_column (0 : Int32) → 0 ≤ x3.toInt → x3.toInt ≤ 64 → v_rowsOf.toInt = R0.toInt → v_columnsOf.toInt = C0.toInt → (64 - x3.toInt).toNat < n → wp (fX9_isNew_17 N n x3 v_rowsOf v_columnsOf v_folded v_wronged v_shapeRows v_shapeColumns v_row v_column v_below v_face v_worn v_lastBend) (cu12 (fun (wv_rowsOf : Int32) (wv_columnsOf : Int32) (wv_folded : Int32) (wv_wronged : Int32) (wv_shapeRows : List Int32) (wv_shapeColumns : List Int32) (wv_row : List Int32) (wv_column : List Int32) (wv_below : List Int32) (wv_face : List Int32) (wv_worn : List Int32) (wv_lastBend : List Int32) => 1 ≤ wv_rowsOf.toInt ∧ wv_rowsOf.toInt ≤ 4 ∧ 1 ≤ wv_columnsOf.toInt ∧ wv_columnsOf.toInt ≤ 8 ∧ wv_shapeRows.length = 6 ∧ wv_shapeColumns.length = 6 ∧ wv_row.length = 192 ∧ wv_column.length = 192 ∧ wv_below.length = 192 ∧ wv_face.length = 192 ∧ wv_worn.length = 384 ∧ wv_lastBend.length = 384 ∧ fr u_row wv_row A B9 ∧ fr u_col wv_column A B9 ∧ fr u_sR wv_shapeRows a9 b9 ∧ fr u_sC wv_shapeColumns a9 b9 ∧ lv9 wv_rowsOf wv_columnsOf wv_shapeRows wv_shapeColumns wv_row wv_column (0 : Int32) ∧ wv_rowsOf.toInt = R0.toInt ∧ wv_columnsOf.toInt = C0.toInt)) := by
  intro n
  induction n with
  | zero =>
    intro x3 v_rowsOf v_columnsOf v_folded v_wronged v_shapeRows v_shapeColumns v_row v_column v_below v_face v_worn v_lastBend h_0 h_1 h_2 h_3 h_4 h_5 h_6 h_7 h_8 h_9 h_10 h_11 h_12 h_13 h_14 h_15 h_16 h_17 h_18 h_19 h_20 h_21 h_22 h_23 h_24 hm
    exact absurd hm (by omega)
  | succ n ih =>
    intro x3 v_rowsOf v_columnsOf v_folded v_wronged v_shapeRows v_shapeColumns v_row v_column v_below v_face v_worn v_lastBend h_0 h_1 h_2 h_3 h_4 h_5 h_6 h_7 h_8 h_9 h_10 h_11 h_12 h_13 h_14 h_15 h_16 h_17 h_18 h_19 h_20 h_21 h_22 h_23 h_24 hm
    refine wp_of (uf_X9_isNew_17 _ _ _ _ _ _ _ _ _ _ _ _ _ _ _) ?_
    have n_2 : (64 : Int32).toInt = 64 := by decide
    refine wp_if (fun c_1 => ?_) (fun c_1 => ?_)
    ·
      have dc_1 := i_le c_1
      exact wp_so12 ⟨h_0, h_1, h_2, h_3, h_4, h_5, h_6, h_7, h_8, h_9, h_10, h_11, h_12, h_13, h_14, h_15, h_20, h_23, h_24⟩
    ·
      have dc_1 := i_nle c_1
      refine wp_ck (i_inb (by omega) (by omega)) ?_
      have n_3 : (0 : Int32).toInt = 0 := by decide
      refine wp_nm (fun l_10 h_l_10 => ?_)
      have nl_l_10 : l_10.length = 384 := by rw [h_l_10, is_len]; assumption
      refine wp_ck (i_inb (by omega) (by omega)) ?_
      refine wp_nm (fun l_12 h_l_12 => ?_)
      have nl_l_12 : l_12.length = 384 := by rw [h_l_12, is_len]; assumption
      have n_4 : (1 : Int32).toInt = 1 := by decide
      refine wp_nm (fun y_13 h_y_13 => ?_)
      have e_5 := i_addE h_y_13.symm (by omega) (by omega)
      exact ih _ _ _ _ _ _ _ _ _ _ _ _ _ h_0 h_1 h_2 h_3 h_4 h_5 h_6 h_7 h_8 h_9 nl_l_10 nl_l_12 h_12 h_13 h_14 h_15 h_16 h_17 h_18 h_19 h_20 (by omega) (by omega) h_23 h_24 (by omega)
set_option maxHeartbeats 4000000 in
set_option maxRecDepth 20000 in
theorem sz_X9_isNew {N : Nat} (hN : 700 ≤ N) {u_row : List Int32} {u_col : List Int32} {u_sR : List Int32} {u_sC : List Int32} {A : Int} {B9 : Int} {a9 : Int} {b9 : Int} {R0 : Int32} {C0 : Int32} {x1 : Int32} {x2 : Int32} {v_rowsOf : Int32} {v_columnsOf : Int32} {v_folded : Int32} {v_wronged : Int32} {v_shapeRows : List Int32} {v_shapeColumns : List Int32} {v_row : List Int32} {v_column : List Int32} {v_below : List Int32} {v_face : List Int32} {v_worn : List Int32} {v_lastBend : List Int32} (h_0 : 1 ≤ v_rowsOf.toInt) (h_1 : v_rowsOf.toInt ≤ 4) (h_2 : 1 ≤ v_columnsOf.toInt) (h_3 : v_columnsOf.toInt ≤ 8) (h_4 : v_shapeRows.length = 6) (h_5 : v_shapeColumns.length = 6) (h_6 : v_row.length = 192) (h_7 : v_column.length = 192) (h_8 : v_below.length = 192) (h_9 : v_face.length = 192) (h_10 : v_worn.length = 384) (h_11 : v_lastBend.length = 384) (h_12 : 1 ≤ x1.toInt) (h_13 : x1.toInt ≤ 4) (h_14 : 1 ≤ x2.toInt) (h_15 : x2.toInt ≤ 8) (h_16 : fr u_row v_row A B9) (h_17 : fr u_col v_column A B9) (h_18 : fr u_sR v_shapeRows a9 b9) (h_19 : fr u_sC v_shapeColumns a9 b9) (h_20 : A ≤ 32 * (0 : Int32).toInt) (h_21 : 32 * (0 : Int32).toInt + 32 ≤ B9) (h_22 : a9 ≤ (0 : Int32).toInt) (h_23 : (0 : Int32).toInt < b9) (h_24 : x1.toInt = R0.toInt) (h_25 : x2.toInt = C0.toInt) : wp (fX9_isNew N x1 x2 v_rowsOf v_columnsOf v_folded v_wronged v_shapeRows v_shapeColumns v_row v_column v_below v_face v_worn v_lastBend) (cu12 (fun (wv_rowsOf : Int32) (wv_columnsOf : Int32) (wv_folded : Int32) (wv_wronged : Int32) (wv_shapeRows : List Int32) (wv_shapeColumns : List Int32) (wv_row : List Int32) (wv_column : List Int32) (wv_below : List Int32) (wv_face : List Int32) (wv_worn : List Int32) (wv_lastBend : List Int32) => 1 ≤ wv_rowsOf.toInt ∧ wv_rowsOf.toInt ≤ 4 ∧ 1 ≤ wv_columnsOf.toInt ∧ wv_columnsOf.toInt ≤ 8 ∧ wv_shapeRows.length = 6 ∧ wv_shapeColumns.length = 6 ∧ wv_row.length = 192 ∧ wv_column.length = 192 ∧ wv_below.length = 192 ∧ wv_face.length = 192 ∧ wv_worn.length = 384 ∧ wv_lastBend.length = 384 ∧ fr u_row wv_row A B9 ∧ fr u_col wv_column A B9 ∧ fr u_sR wv_shapeRows a9 b9 ∧ fr u_sC wv_shapeColumns a9 b9 ∧ lv9 wv_rowsOf wv_columnsOf wv_shapeRows wv_shapeColumns wv_row wv_column (0 : Int32) ∧ wv_rowsOf.toInt = R0.toInt ∧ wv_columnsOf.toInt = C0.toInt)) := by
  refine wp_of (uf_X9_isNew _ _ _ _ _ _ _ _ _ _ _ _ _ _ _) ?_
  have n_1 : (0 : Int32).toInt = 0 := by decide
  refine wp_bd6 (sf_X9_liesFlat (u_row := u_row) (u_col := u_col) (u_sR := u_sR) (u_sC := u_sC) (A := A) (B9 := B9) (a9 := a9) (b9 := b9) hN h_12 h_13 h_14 h_15 h_4 h_5 h_6 h_7 h_8 h_9 (by omega) (by omega) h_16 h_17 h_18 h_19 h_20 h_21 h_22 h_23) (fun w_1 w_2 w_3 w_4 w_5 w_6 ⟨q_2, q_3, q_4, q_5, q_6, q_7, q_8, q_9, q_10, q_11, q_12⟩ => ?_)
  exact sz_X9_isNew_17 (u_row := u_row) (u_col := u_col) (u_sR := u_sR) (u_sC := u_sC) (A := A) (B9 := B9) (a9 := a9) (b9 := b9) (R0 := R0) (C0 := C0) hN _ _ _ _ _ _ _ _ _ _ _ _ _ _ h_12 h_13 h_14 h_15 q_2 q_3 q_4 q_5 q_6 q_7 h_10 h_11 q_8 q_9 q_10 q_11 h_20 h_21 h_22 h_23 q_12 (by omega) (by omega) h_24 h_25 (by omega)
set_option maxHeartbeats 4000000 in
set_option maxRecDepth 20000 in
theorem sz_X5_renew {N : Nat} (hN : 700 ≤ N) {x1 : Int32} {x2 : Int32} {v_rows : Int32} {v_cols : Int32} {v_high : Int32} {v_wide : Int32} {v_folds : Int32} {v_wrong : Int32} {v_more : Int32} {v_rowOf : List Int32} {v_colOf : List Int32} {v_below : List Int32} {v_face : List Int32} {v_worn : List Int32} {v_last : List Int32} (h_0 : 1 ≤ v_rows.toInt) (h_1 : v_rows.toInt ≤ 4) (h_2 : 1 ≤ v_cols.toInt) (h_3 : v_cols.toInt ≤ 8) (h_4 : 1 ≤ v_high.toInt) (h_5 : v_high.toInt ≤ 4) (h_6 : 1 ≤ v_wide.toInt) (h_7 : v_wide.toInt ≤ 8) (h_8 : v_rowOf.length = 32) (h_9 : v_colOf.length = 32) (h_10 : v_below.length = 32) (h_11 : v_face.length = 32) (h_12 : v_worn.length = 64) (h_13 : v_last.length = 64) (h_14 : 1 ≤ x1.toInt) (h_15 : x1.toInt ≤ 4) (h_16 : 1 ≤ x2.toInt) (h_17 : x2.toInt ≤ 8) : wp (fX5_renew N x1 x2 v_rows v_cols v_high v_wide v_folds v_wrong v_more v_rowOf v_colOf v_below v_face v_worn v_last) (cu13 (fun (wv_rows : Int32) (wv_cols : Int32) (wv_high : Int32) (wv_wide : Int32) (wv_folds : Int32) (wv_wrong : Int32) (wv_more : Int32) (wv_rowOf : List Int32) (wv_colOf : List Int32) (wv_below : List Int32) (wv_face : List Int32) (wv_worn : List Int32) (wv_last : List Int32) => 1 ≤ wv_rows.toInt ∧ wv_rows.toInt ≤ 4 ∧ 1 ≤ wv_cols.toInt ∧ wv_cols.toInt ≤ 8 ∧ 1 ≤ wv_high.toInt ∧ wv_high.toInt ≤ 4 ∧ 1 ≤ wv_wide.toInt ∧ wv_wide.toInt ≤ 8 ∧ wv_rowOf.length = 32 ∧ wv_colOf.length = 32 ∧ wv_below.length = 32 ∧ wv_face.length = 32 ∧ wv_worn.length = 64 ∧ wv_last.length = 64 ∧ zn wv_rowOf 0 (wv_rows.toInt * wv_cols.toInt) 0 wv_high.toInt ∧ zn wv_colOf 0 (wv_rows.toInt * wv_cols.toInt) 0 wv_wide.toInt ∧ wv_rows.toInt = x1.toInt ∧ wv_cols.toInt = x2.toInt)) := by
  refine wp_of (uf_X5_renew _ _ _ _ _ _ _ _ _ _ _ _ _ _ _ _) ?_
  refine wp_bd1 (sf_J7_fill_53178 hN (by first | assumption | omega | decide) (by first | assumption | omega | decide)) (fun w_1 q_1 => ?_)
  have nl_w_1 : w_1.length = 64 := by omega
  refine wp_bd1 (sf_J7_fill_53178 hN (by first | assumption | omega | decide) (by first | assumption | omega | decide)) (fun w_3 q_2 => ?_)
  have nl_w_3 : w_3.length = 64 := by omega
  refine wp_bd3 (sf_X5_forgetLed hN ) (fun w_5 w_6 w_7 _ => ?_)
  refine wp_bd6 (sf_X5_layOut hN h_14 h_15 h_16 h_17 h_4 h_5 h_6 h_7 h_8 h_9 h_10 h_11) (fun w_9 w_10 w_11 w_12 w_13 w_14 ⟨q_3, q_4, q_5, q_6, q_7, q_8, q_9, q_10, q_11, q_12⟩ => ?_)
  exact wp_so13 ⟨h_14, h_15, h_16, h_17, q_3, q_4, q_5, q_6, q_7, q_8, q_9, q_10, nl_w_1, nl_w_3, q_11, q_12, (by omega), (by omega)⟩
set_option maxHeartbeats 4000000 in
set_option maxRecDepth 20000 in
theorem sz_X8_sheet {N : Nat} (hN : 700 ≤ N) {x1 : Int32} {v_now_rows : Int32} {v_now_cols : Int32} {v_now_high : Int32} {v_now_wide : Int32} {v_now_folds : Int32} {v_now_wrong : Int32} {v_now_more : Int32} {v_now_rowOf : List Int32} {v_now_colOf : List Int32} {v_now_below : List Int32} {v_now_face : List Int32} {v_now_worn : List Int32} {v_now_last : List Int32} (h_0 : 1 ≤ v_now_rows.toInt) (h_1 : v_now_rows.toInt ≤ 4) (h_2 : 1 ≤ v_now_cols.toInt) (h_3 : v_now_cols.toInt ≤ 8) (h_4 : 1 ≤ v_now_high.toInt) (h_5 : v_now_high.toInt ≤ 4) (h_6 : 1 ≤ v_now_wide.toInt) (h_7 : v_now_wide.toInt ≤ 8) (h_8 : v_now_rowOf.length = 32) (h_9 : v_now_colOf.length = 32) (h_10 : v_now_below.length = 32) (h_11 : v_now_face.length = 32) (h_12 : v_now_worn.length = 64) (h_13 : v_now_last.length = 64) (h_14 : zn v_now_rowOf 0 (v_now_rows.toInt * v_now_cols.toInt) 0 v_now_high.toInt) (h_15 : zn v_now_colOf 0 (v_now_rows.toInt * v_now_cols.toInt) 0 v_now_wide.toInt) (h_16 : -2147483648 ≤ x1.toInt) : wp (fX8_sheet N x1 v_now_rows v_now_cols v_now_high v_now_wide v_now_folds v_now_wrong v_now_more v_now_rowOf v_now_colOf v_now_below v_now_face v_now_worn v_now_last) (cu14 (fun (r : Int32) (wv_now_rows : Int32) (wv_now_cols : Int32) (wv_now_high : Int32) (wv_now_wide : Int32) (wv_now_folds : Int32) (wv_now_wrong : Int32) (wv_now_more : Int32) (wv_now_rowOf : List Int32) (wv_now_colOf : List Int32) (wv_now_below : List Int32) (wv_now_face : List Int32) (wv_now_worn : List Int32) (wv_now_last : List Int32) => 1 ≤ wv_now_rows.toInt ∧ wv_now_rows.toInt ≤ 4 ∧ 1 ≤ wv_now_cols.toInt ∧ wv_now_cols.toInt ≤ 8 ∧ 1 ≤ wv_now_high.toInt ∧ wv_now_high.toInt ≤ 4 ∧ 1 ≤ wv_now_wide.toInt ∧ wv_now_wide.toInt ≤ 8 ∧ wv_now_rowOf.length = 32 ∧ wv_now_colOf.length = 32 ∧ wv_now_below.length = 32 ∧ wv_now_face.length = 32 ∧ wv_now_worn.length = 64 ∧ wv_now_last.length = 64 ∧ zn wv_now_rowOf 0 (wv_now_rows.toInt * wv_now_cols.toInt) 0 wv_now_high.toInt ∧ zn wv_now_colOf 0 (wv_now_rows.toInt * wv_now_cols.toInt) 0 wv_now_wide.toInt ∧ (((r.toInt = -1 ∧ wv_now_rows.toInt = v_now_rows.toInt ∧ wv_now_cols.toInt = v_now_cols.toInt ∧ ¬ (0 ≤ x1.toInt ∧ 1 ≤ x1.toInt / 10 ∧ x1.toInt / 10 ≤ 4 ∧ 1 ≤ x1.toInt % 10 ∧ x1.toInt % 10 ≤ 8)) ∨ (r.toInt = 10 * v_now_rows.toInt + v_now_cols.toInt ∧ wv_now_rows.toInt = x1.toInt / 10 ∧ wv_now_cols.toInt = x1.toInt % 10 ∧ (0 ≤ x1.toInt ∧ 1 ≤ x1.toInt / 10 ∧ x1.toInt / 10 ≤ 4 ∧ 1 ≤ x1.toInt % 10 ∧ x1.toInt % 10 ≤ 8)))))) := by
  refine wp_of (uf_X8_sheet _ _ _ _ _ _ _ _ _ _ _ _ _ _ _) ?_
  have n_1 : (10 : Int32).toInt = 10 := by decide
  refine wp_ck (i_nz (by omega)) ?_
  refine wp_nm (fun y_2 h_y_2 => ?_)
  have e_2 := i_divL (c := 10) (by decide) (by decide) h_y_2.symm
  have dn_2 : x1.toInt < 0 → y_2.toInt ≤ 0 := fun h => i_dneg (by assumption) h
  refine wp_ck (i_nz (by omega)) ?_
  refine wp_nm (fun y_4 h_y_4 => ?_)
  have e_3 := i_remL (c := 10) (by decide) (by decide) h_y_4.symm
  have n_5 : (1 : Int32).toInt = 1 := by decide
  refine wp_if (fun c_4 => ?_) (fun c_4 => ?_)
  ·
    have dc_4 := i_lt c_4
    have n_6 : (-1 : Int32).toInt = -1 := by decide
    exact wp_so14 ⟨h_0, h_1, h_2, h_3, h_4, h_5, h_6, h_7, h_8, h_9, h_10, h_11, h_12, h_13, h_14, h_15, (by omega)⟩
  ·
    have dc_4 := i_nlt c_4
    have n_8 : (4 : Int32).toInt = 4 := by decide
    refine wp_if (fun c_7 => ?_) (fun c_7 => ?_)
    ·
      have dc_7 := i_lt c_7
      have n_9 : (-1 : Int32).toInt = -1 := by decide
      exact wp_so14 ⟨h_0, h_1, h_2, h_3, h_4, h_5, h_6, h_7, h_8, h_9, h_10, h_11, h_12, h_13, h_14, h_15, (by omega)⟩
    ·
      have dc_7 := i_nlt c_7
      refine wp_if (fun c_10 => ?_) (fun c_10 => ?_)
      ·
        have dc_10 := i_lt c_10
        have n_11 : (-1 : Int32).toInt = -1 := by decide
        exact wp_so14 ⟨h_0, h_1, h_2, h_3, h_4, h_5, h_6, h_7, h_8, h_9, h_10, h_11, h_12, h_13, h_14, h_15, (by omega)⟩
      ·
        have dc_10 := i_nlt c_10
        have n_13 : (8 : Int32).toInt = 8 := by decide
        refine wp_if (fun c_12 => ?_) (fun c_12 => ?_)
        ·
          have dc_12 := i_le c_12
          generalize hz_z : ((10 : Int32) * v_now_rows) = z
          have e_14 := i_mulLE (c := 10) (by decide) hz_z (by omega) (by omega)
          refine wp_nm (fun y_9 h_y_9 => ?_)
          have e_15 := i_addE h_y_9.symm (by omega) (by omega)
          refine wp_bd13 (sz_X5_renew hN h_0 h_1 h_2 h_3 h_4 h_5 h_6 h_7 h_8 h_9 h_10 h_11 h_12 h_13 (by omega) (by omega) (by omega) (by omega)) (fun w_10 w_11 w_12 w_13 w_14 w_15 w_16 w_17 w_18 w_19 w_20 w_21 w_22 ⟨q_16, q_17, q_18, q_19, q_20, q_21, q_22, q_23, q_24, q_25, q_26, q_27, q_28, q_29, q_30, q_31, q_32, q_33⟩ => ?_)
          exact wp_so14 ⟨q_16, q_17, q_18, q_19, q_20, q_21, q_22, q_23, q_24, q_25, q_26, q_27, q_28, q_29, q_30, q_31, (by omega)⟩
        ·
          have dc_12 := i_nle c_12
          have n_34 : (-1 : Int32).toInt = -1 := by decide
          exact wp_so14 ⟨h_0, h_1, h_2, h_3, h_4, h_5, h_6, h_7, h_8, h_9, h_10, h_11, h_12, h_13, h_14, h_15, (by omega)⟩
set_option maxHeartbeats 4000000 in
set_option maxRecDepth 20000 in
theorem sz_X9_sheet {N : Nat} (hN : 700 ≤ N) {u_row : List Int32} {u_col : List Int32} {u_sR : List Int32} {u_sC : List Int32} {A : Int} {B9 : Int} {a9 : Int} {b9 : Int} {x1 : Int32} {v_rowsOf : Int32} {v_columnsOf : Int32} {v_folded : Int32} {v_wronged : Int32} {v_shapeRows : List Int32} {v_shapeColumns : List Int32} {v_row : List Int32} {v_column : List Int32} {v_below : List Int32} {v_face : List Int32} {v_worn : List Int32} {v_lastBend : List Int32} (h_0 : 1 ≤ v_rowsOf.toInt) (h_1 : v_rowsOf.toInt ≤ 4) (h_2 : 1 ≤ v_columnsOf.toInt) (h_3 : v_columnsOf.toInt ≤ 8) (h_4 : v_shapeRows.length = 6) (h_5 : v_shapeColumns.length = 6) (h_6 : v_row.length = 192) (h_7 : v_column.length = 192) (h_8 : v_below.length = 192) (h_9 : v_face.length = 192) (h_10 : v_worn.length = 384) (h_11 : v_lastBend.length = 384) (h_12 : fr u_row v_row A B9) (h_13 : fr u_col v_column A B9) (h_14 : fr u_sR v_shapeRows a9 b9) (h_15 : fr u_sC v_shapeColumns a9 b9) (h_16 : A ≤ 32 * (0 : Int32).toInt) (h_17 : 32 * (0 : Int32).toInt + 32 ≤ B9) (h_18 : a9 ≤ (0 : Int32).toInt) (h_19 : (0 : Int32).toInt < b9) (h_20 : lv9 v_rowsOf v_columnsOf v_shapeRows v_shapeColumns v_row v_column (0 : Int32)) : wp (fX9_sheet N x1 v_rowsOf v_columnsOf v_folded v_wronged v_shapeRows v_shapeColumns v_row v_column v_below v_face v_worn v_lastBend) (cu13 (fun (r : Int32) (wv_rowsOf : Int32) (wv_columnsOf : Int32) (wv_folded : Int32) (wv_wronged : Int32) (wv_shapeRows : List Int32) (wv_shapeColumns : List Int32) (wv_row : List Int32) (wv_column : List Int32) (wv_below : List Int32) (wv_face : List Int32) (wv_worn : List Int32) (wv_lastBend : List Int32) => 1 ≤ wv_rowsOf.toInt ∧ wv_rowsOf.toInt ≤ 4 ∧ 1 ≤ wv_columnsOf.toInt ∧ wv_columnsOf.toInt ≤ 8 ∧ wv_shapeRows.length = 6 ∧ wv_shapeColumns.length = 6 ∧ wv_row.length = 192 ∧ wv_column.length = 192 ∧ wv_below.length = 192 ∧ wv_face.length = 192 ∧ wv_worn.length = 384 ∧ wv_lastBend.length = 384 ∧ fr u_row wv_row A B9 ∧ fr u_col wv_column A B9 ∧ fr u_sR wv_shapeRows a9 b9 ∧ fr u_sC wv_shapeColumns a9 b9 ∧ lv9 wv_rowsOf wv_columnsOf wv_shapeRows wv_shapeColumns wv_row wv_column (0 : Int32) ∧ (((r.toInt = -1 ∧ wv_rowsOf.toInt = v_rowsOf.toInt ∧ wv_columnsOf.toInt = v_columnsOf.toInt ∧ ¬ (0 ≤ x1.toInt ∧ 1 ≤ x1.toInt / 10 ∧ x1.toInt / 10 ≤ 4 ∧ 1 ≤ x1.toInt % 10 ∧ x1.toInt % 10 ≤ 8)) ∨ (r.toInt = 10 * v_rowsOf.toInt + v_columnsOf.toInt ∧ wv_rowsOf.toInt = x1.toInt / 10 ∧ wv_columnsOf.toInt = x1.toInt % 10 ∧ (0 ≤ x1.toInt ∧ 1 ≤ x1.toInt / 10 ∧ x1.toInt / 10 ≤ 4 ∧ 1 ≤ x1.toInt % 10 ∧ x1.toInt % 10 ≤ 8)))))) := by
  refine wp_of (uf_X9_sheet _ _ _ _ _ _ _ _ _ _ _ _ _ _) ?_
  have n_2 : (0 : Int32).toInt = 0 := by decide
  refine wp_if (fun c_1 => ?_) (fun c_1 => ?_)
  ·
    have dc_1 := i_lt c_1
    have n_3 : (-1 : Int32).toInt = -1 := by decide
    exact wp_so13 ⟨h_0, h_1, h_2, h_3, h_4, h_5, h_6, h_7, h_8, h_9, h_10, h_11, h_12, h_13, h_14, h_15, h_20, (by omega)⟩
  ·
    have dc_1 := i_nlt c_1
    have n_4 : (10 : Int32).toInt = 10 := by decide
    refine wp_ck (i_nz (by omega)) ?_
    generalize hz_z : (x1 / (10 : Int32)) = z
    have e_5 := i_divL (c := 10) (by decide) (by decide) hz_z
    have n_6 := i_64 z
    have n_7 : (1 : Int64).toInt = 1 := by decide
    have n_8 : (4 : Int64).toInt = 4 := by decide
    refine wp_bd1 (sf_X9_within hN ) (fun r_3 q_9 => ?_)
    rcases q_9 with ⟨rfl, q_9⟩ | ⟨rfl, q_9⟩
    ·
      refine wp_ifn (by decide) ?_
      refine wp_ck (i_nz (by omega)) ?_
      generalize hz_z__10 : (mm_rem x1 (10 : Int32)) = z__10
      have e_11 := i_remL (c := 10) (by decide) (by decide) hz_z__10
      have n_12 := i_64 z__10
      have n_13 : (8 : Int64).toInt = 8 := by decide
      refine wp_bd1 (sf_X9_within hN ) (fun r_7 q_14 => ?_)
      rcases q_14 with ⟨rfl, q_14⟩ | ⟨rfl, q_14⟩
      ·
        refine wp_ifn (by decide) ?_
        generalize hz_z__15 : ((10 : Int32) * v_rowsOf) = z__15
        have e_16 := i_mulLE (c := 10) (by decide) hz_z__15 (by omega) (by omega)
        refine wp_nm (fun y_10 h_y_10 => ?_)
        have e_17 := i_addE h_y_10.symm (by omega) (by omega)
        refine wp_ck (i_nz (by omega)) ?_
        refine wp_ck (i_nz (by omega)) ?_
        refine wp_bd12 (sz_X9_isNew (u_row := u_row) (u_col := u_col) (u_sR := u_sR) (u_sC := u_sC) (A := A) (B9 := B9) (a9 := a9) (b9 := b9) (R0 := z) (C0 := z__10) hN h_0 h_1 h_2 h_3 h_4 h_5 h_6 h_7 h_8 h_9 h_10 h_11 (by omega) (by omega) (by omega) (by omega) h_12 h_13 h_14 h_15 h_16 h_17 h_18 h_19 (by omega) (by omega)) (fun w_13 w_14 w_15 w_16 w_17 w_18 w_19 w_20 w_21 w_22 w_23 w_24 ⟨q_18, q_19, q_20, q_21, q_22, q_23, q_24, q_25, q_26, q_27, q_28, q_29, q_30, q_31, q_32, q_33, q_34, q_35, q_36⟩ => ?_)
        exact wp_so13 ⟨q_18, q_19, q_20, q_21, q_22, q_23, q_24, q_25, q_26, q_27, q_28, q_29, q_30, q_31, q_32, q_33, q_34, (by omega)⟩
      ·
        refine wp_ifp (by decide) ?_
        have n_37 : (-1 : Int32).toInt = -1 := by decide
        exact wp_so13 ⟨h_0, h_1, h_2, h_3, h_4, h_5, h_6, h_7, h_8, h_9, h_10, h_11, h_12, h_13, h_14, h_15, h_20, (by omega)⟩
    ·
      refine wp_ifp (by decide) ?_
      have n_38 : (-1 : Int32).toInt = -1 := by decide
      exact wp_so13 ⟨h_0, h_1, h_2, h_3, h_4, h_5, h_6, h_7, h_8, h_9, h_10, h_11, h_12, h_13, h_14, h_15, h_20, (by omega)⟩
theorem ti_eq {a b : Int32} (h : a.toInt = b.toInt) : a = b := Int32.toInt_inj.mp h
theorem bi_8 {α0 α1 α2 α3 α4 α5 α6 α7 β : Type} {x : Option (α0 × α1 × α2 × α3 × α4 × α5 × α6 × α7)} {k : α0 → α1 → α2 → α3 → α4 → α5 → α6 → α7 → Option β} {z : β} (h : mm_bd8 x k = some z) : ∃ t : α0 × α1 × α2 × α3 × α4 × α5 × α6 × α7, x = some t ∧ k t.1 t.2.1 t.2.2.1 t.2.2.2.1 t.2.2.2.2.1 t.2.2.2.2.2.1 t.2.2.2.2.2.2.1 t.2.2.2.2.2.2.2 = some z := by
  cases x with
  | none => exact absurd h (by intro h; cases h)
  | some t => exact ⟨t, rfl, h⟩
def rl_dm (v_now_rows v_now_cols : Int32) (v_hasImage : Bool) (v_kept_rows v_kept_cols m_rowsOf m_columnsOf : Int32) (m_isKept : Bool) (m_imageRows m_imageColumns : Int32) : Prop := m_rowsOf = v_now_rows ∧ m_columnsOf = v_now_cols ∧ m_isKept = v_hasImage ∧ (v_hasImage = true → m_imageRows = v_kept_rows ∧ m_imageColumns = v_kept_cols)
set_option maxHeartbeats 4000000 in
set_option maxRecDepth 20000 in
theorem sx8_law {v_wearing_size : Int32} {v_wearing_stepCount : Int32} {v_wearing_draftCount : Int32} {v_wearing_place : Int32} {v_wearing_fault : Int32} {v_wearing_tape : List Int32} {v_wearing_steps : List Int32} {v_wearing_draft : List Int32} {v_wearing_stack : List Int32} (g_0 : gi_la v_wearing_size v_wearing_stepCount v_wearing_draftCount v_wearing_tape v_wearing_steps v_wearing_draft v_wearing_stack) : wp (fX8_law 700 v_wearing_size v_wearing_stepCount v_wearing_draftCount v_wearing_place v_wearing_fault v_wearing_tape v_wearing_steps v_wearing_draft) (cu8 (fun (r : Int32) (wv_wearing_size : Int32) (wv_wearing_stepCount : Int32) (wv_wearing_draftCount : Int32) (wv_wearing_place : Int32) (wv_wearing_fault : Int32) (wv_wearing_steps : List Int32) (wv_wearing_draft : List Int32) => wv_wearing_size.toInt = 0)) := by
  obtain ⟨a_0_0, a_0_1, a_0_2, a_0_3, a_0_4, a_0_5, a_0_6, a_0_7, a_0_8, a_0_9⟩ := id g_0
  exact wp_cu8 (sz_X8_law (Nat.le_refl 700) a_0_0 a_0_1 a_0_2 a_0_3 a_0_4 a_0_5 a_0_6 a_0_7 a_0_8) (fun r wv_wearing_size wv_wearing_stepCount wv_wearing_draftCount wv_wearing_place wv_wearing_fault wv_wearing_steps wv_wearing_draft ⟨q_0, q_1, q_2, q_3, q_4, q_5, q_6, q_7, q_8⟩ => q_8)
set_option maxHeartbeats 4000000 in
set_option maxRecDepth 20000 in
theorem sx9_law {v_tapeMany : Int32} {v_textMany : Int32} {v_base : Int32} {v_at : Int32} {v_ends : Int32} {v_fault : Int32} {v_opened : Int32} {v_tape : List Int32} {v_text : List Int32} {v_names : List Int32} {v_bends : List Int32} {v_high : List Int32} {v_to : List Int32} {v_pileSize : List Int32} (g_0 : gm_tx v_tapeMany v_textMany v_tape v_text v_names v_bends v_high v_to v_pileSize) : wp (fX9_law 700 v_tapeMany v_textMany v_base v_at v_ends v_fault v_opened v_tape v_text v_names) (cu9 (fun (r : Int32) (wv_tapeMany : Int32) (wv_textMany : Int32) (wv_base : Int32) (wv_at : Int32) (wv_ends : Int32) (wv_fault : Int32) (wv_opened : Int32) (wv_text : List Int32) => wv_tapeMany.toInt = 0)) := by
  obtain ⟨a_0_0, a_0_1, a_0_2, a_0_3, a_0_4, a_0_5, a_0_6, a_0_7, a_0_8, a_0_9, a_0_10⟩ := id g_0
  exact wp_cu9 (sz_X9_law (Nat.le_refl 700) a_0_0 a_0_1 a_0_2 a_0_3 a_0_4 a_0_5 a_0_6) (fun r wv_tapeMany wv_textMany wv_base wv_at wv_ends wv_fault wv_opened wv_text ⟨q_0, q_1, q_2, q_3, q_4, q_5⟩ => q_5)
set_option maxHeartbeats 4000000 in
set_option maxRecDepth 20000 in
theorem sx8_sheet {x1 : Int32} {v_now_rows : Int32} {v_now_cols : Int32} {v_now_high : Int32} {v_now_wide : Int32} {v_now_folds : Int32} {v_now_wrong : Int32} {v_now_more : Int32} {v_now_rowOf : List Int32} {v_now_colOf : List Int32} {v_now_below : List Int32} {v_now_face : List Int32} {v_now_worn : List Int32} {v_now_last : List Int32} {v_now_bend : List Int32} {v_now_tall : List Int32} (g_0 : gi_sh v_now_rows v_now_cols v_now_high v_now_wide v_now_rowOf v_now_colOf v_now_below v_now_face v_now_worn v_now_last v_now_bend v_now_tall) : wp (fX8_sheet 700 x1 v_now_rows v_now_cols v_now_high v_now_wide v_now_folds v_now_wrong v_now_more v_now_rowOf v_now_colOf v_now_below v_now_face v_now_worn v_now_last) (cu14 (fun (r : Int32) (wv_now_rows : Int32) (wv_now_cols : Int32) (wv_now_high : Int32) (wv_now_wide : Int32) (wv_now_folds : Int32) (wv_now_wrong : Int32) (wv_now_more : Int32) (wv_now_rowOf : List Int32) (wv_now_colOf : List Int32) (wv_now_below : List Int32) (wv_now_face : List Int32) (wv_now_worn : List Int32) (wv_now_last : List Int32) => (((r.toInt = -1 ∧ wv_now_rows.toInt = v_now_rows.toInt ∧ wv_now_cols.toInt = v_now_cols.toInt ∧ ¬ (0 ≤ x1.toInt ∧ 1 ≤ x1.toInt / 10 ∧ x1.toInt / 10 ≤ 4 ∧ 1 ≤ x1.toInt % 10 ∧ x1.toInt % 10 ≤ 8)) ∨ (r.toInt = 10 * v_now_rows.toInt + v_now_cols.toInt ∧ wv_now_rows.toInt = x1.toInt / 10 ∧ wv_now_cols.toInt = x1.toInt % 10 ∧ (0 ≤ x1.toInt ∧ 1 ≤ x1.toInt / 10 ∧ x1.toInt / 10 ≤ 4 ∧ 1 ≤ x1.toInt % 10 ∧ x1.toInt % 10 ≤ 8)))))) := by
  obtain ⟨a_0_0, a_0_1, a_0_2, a_0_3, a_0_4, a_0_5, a_0_6, a_0_7, a_0_8, a_0_9, a_0_10, a_0_11, a_0_12, a_0_13, a_0_14, a_0_15, a_0_16, a_0_17⟩ := id g_0
  exact wp_cu14 (sz_X8_sheet (Nat.le_refl 700) a_0_0 a_0_1 a_0_2 a_0_3 a_0_4 a_0_5 a_0_6 a_0_7 a_0_8 a_0_9 a_0_10 a_0_11 a_0_12 a_0_13 a_0_16 a_0_17 (Int32.le_toInt _)) (fun r wv_now_rows wv_now_cols wv_now_high wv_now_wide wv_now_folds wv_now_wrong wv_now_more wv_now_rowOf wv_now_colOf wv_now_below wv_now_face wv_now_worn wv_now_last ⟨q_0, q_1, q_2, q_3, q_4, q_5, q_6, q_7, q_8, q_9, q_10, q_11, q_12, q_13, q_14, q_15, q_16⟩ => q_16)
set_option maxHeartbeats 4000000 in
set_option maxRecDepth 20000 in
theorem sx9_sheet {x1 : Int32} {v_rowsOf : Int32} {v_columnsOf : Int32} {v_folded : Int32} {v_wronged : Int32} {v_shapeRows : List Int32} {v_shapeColumns : List Int32} {v_row : List Int32} {v_column : List Int32} {v_below : List Int32} {v_face : List Int32} {v_worn : List Int32} {v_lastBend : List Int32} {v_isKept : Bool} {v_imageRows : Int32} {v_imageColumns : Int32} (g_0 : gm_sh v_rowsOf v_columnsOf v_isKept v_imageRows v_imageColumns v_shapeRows v_shapeColumns v_row v_column v_below v_face v_worn v_lastBend) : wp (fX9_sheet 700 x1 v_rowsOf v_columnsOf v_folded v_wronged v_shapeRows v_shapeColumns v_row v_column v_below v_face v_worn v_lastBend) (cu13 (fun (r : Int32) (wv_rowsOf : Int32) (wv_columnsOf : Int32) (wv_folded : Int32) (wv_wronged : Int32) (wv_shapeRows : List Int32) (wv_shapeColumns : List Int32) (wv_row : List Int32) (wv_column : List Int32) (wv_below : List Int32) (wv_face : List Int32) (wv_worn : List Int32) (wv_lastBend : List Int32) => (((r.toInt = -1 ∧ wv_rowsOf.toInt = v_rowsOf.toInt ∧ wv_columnsOf.toInt = v_columnsOf.toInt ∧ ¬ (0 ≤ x1.toInt ∧ 1 ≤ x1.toInt / 10 ∧ x1.toInt / 10 ≤ 4 ∧ 1 ≤ x1.toInt % 10 ∧ x1.toInt % 10 ≤ 8)) ∨ (r.toInt = 10 * v_rowsOf.toInt + v_columnsOf.toInt ∧ wv_rowsOf.toInt = x1.toInt / 10 ∧ wv_columnsOf.toInt = x1.toInt % 10 ∧ (0 ≤ x1.toInt ∧ 1 ≤ x1.toInt / 10 ∧ x1.toInt / 10 ≤ 4 ∧ 1 ≤ x1.toInt % 10 ∧ x1.toInt % 10 ≤ 8)))))) := by
  obtain ⟨a_0_0, a_0_1, a_0_2, a_0_3, a_0_4, a_0_5, a_0_6, a_0_7, a_0_8, a_0_9, a_0_10, a_0_11, a_0_12, a_0_13⟩ := id g_0
  have n0 : (0 : Int32).toInt = 0 := by decide
  have n5 : (5 : Int32).toInt = 5 := by decide
  exact wp_cu13 (sz_X9_sheet (u_row := v_row) (u_col := v_column) (u_sR := v_shapeRows) (u_sC := v_shapeColumns) (A := 0) (B9 := 32) (a9 := 0) (b9 := 1) (Nat.le_refl 700) a_0_0 a_0_1 a_0_2 a_0_3 a_0_4 a_0_5 a_0_6 a_0_7 a_0_8 a_0_9 a_0_10 a_0_11 (fr_refl _ _ _) (fr_refl _ _ _) (fr_refl _ _ _) (fr_refl _ _ _) (by omega) (by omega) (by omega) (by omega) a_0_12) (fun r wv_rowsOf wv_columnsOf wv_folded wv_wronged wv_shapeRows wv_shapeColumns wv_row wv_column wv_below wv_face wv_worn wv_lastBend ⟨q_0, q_1, q_2, q_3, q_4, q_5, q_6, q_7, q_8, q_9, q_10, q_11, q_12, q_13, q_14, q_15, q_16, q_17⟩ => q_17)
theorem rs_law_tp {v_wearing_size : Int32} {v_wearing_stepCount : Int32} {v_wearing_draftCount : Int32} {v_wearing_place : Int32} {v_wearing_fault : Int32} {v_wearing_tape : List Int32} {v_wearing_steps : List Int32} {v_wearing_draft : List Int32} {v_wearing_stack : List Int32} {m_tapeMany : Int32} {m_textMany : Int32} {m_base : Int32} {m_at : Int32} {m_ends : Int32} {m_fault : Int32} {m_opened : Int32} {m_tape : List Int32} {m_text : List Int32} {m_names : List Int32} {m_bends : List Int32} {m_high : List Int32} {m_to : List Int32} {m_pileSize : List Int32} (g8_0 : gi_la v_wearing_size v_wearing_stepCount v_wearing_draftCount v_wearing_tape v_wearing_steps v_wearing_draft v_wearing_stack) (g9_0 : gm_tx m_tapeMany m_textMany m_tape m_text m_names m_bends m_high m_to m_pileSize) (hr_0 : rl_tp v_wearing_size v_wearing_tape m_tapeMany m_tape) : ∃ (r8 : Int32) (p_wearing_size : Int32) (p_wearing_stepCount : Int32) (p_wearing_draftCount : Int32) (p_wearing_place : Int32) (p_wearing_fault : Int32) (p_wearing_steps : List Int32) (p_wearing_draft : List Int32) (r9 : Int32) (q_tapeMany : Int32) (q_textMany : Int32) (q_base : Int32) (q_at : Int32) (q_ends : Int32) (q_fault : Int32) (q_opened : Int32) (q_text : List Int32), fX8_law 700 v_wearing_size v_wearing_stepCount v_wearing_draftCount v_wearing_place v_wearing_fault v_wearing_tape v_wearing_steps v_wearing_draft = some (r8, p_wearing_size, p_wearing_stepCount, p_wearing_draftCount, p_wearing_place, p_wearing_fault, p_wearing_steps, p_wearing_draft) ∧ fX9_law 700 m_tapeMany m_textMany m_base m_at m_ends m_fault m_opened m_tape m_text m_names = some (r9, q_tapeMany, q_textMany, q_base, q_at, q_ends, q_fault, q_opened, q_text) ∧ gi_la p_wearing_size p_wearing_stepCount p_wearing_draftCount v_wearing_tape p_wearing_steps p_wearing_draft v_wearing_stack ∧ gm_tx q_tapeMany q_textMany m_tape q_text m_names m_bends m_high m_to m_pileSize ∧ rl_tp p_wearing_size v_wearing_tape q_tapeMany m_tape := by
  obtain ⟨rfl, rfl⟩ := hr_0
  obtain ⟨⟨r8, p0, p1, p2, p3, p4, p5, p6⟩, e8, h8⟩ := sx8_law (v_wearing_place := v_wearing_place) (v_wearing_fault := v_wearing_fault) g8_0
  obtain ⟨⟨r9, q0, q1, q2, q3, q4, q5, q6, q7⟩, e9, h9⟩ := sx9_law (v_base := m_base) (v_at := m_at) (v_ends := m_ends) (v_fault := m_fault) (v_opened := m_opened) g9_0
  have z8 : p0.toInt = 0 := h8
  have z9 : q0.toInt = 0 := h9
  have ez : q0 = p0 := ti_eq (by omega)
  have k8 := wp_get (st8_law g8_0) e8
  have k9 := wp_get (st9_law g9_0) e9
  exact ⟨_, _, _, _, _, _, _, _, _, _, _, _, _, _, _, _, _, e8, e9, k8, k9, ez, rfl⟩
set_option maxHeartbeats 4000000 in
set_option maxRecDepth 20000 in
theorem im8 {v_hasImage : Bool} {v_now_rows : Int32} {v_now_cols : Int32} {v_now_high : Int32} {v_now_wide : Int32} {v_now_folds : Int32} {v_now_wrong : Int32} {v_now_more : Int32} {v_now_rowOf : List Int32} {v_now_colOf : List Int32} {v_now_below : List Int32} {v_now_face : List Int32} {v_now_worn : List Int32} {v_now_last : List Int32} {v_kept_rows : Int32} {v_kept_cols : Int32} {v_kept_high : Int32} {v_kept_wide : Int32} {v_kept_folds : Int32} {v_kept_wrong : Int32} {v_kept_more : Int32} {v_kept_rowOf : List Int32} {v_kept_colOf : List Int32} {v_kept_below : List Int32} {v_kept_face : List Int32} {v_kept_worn : List Int32} {v_kept_last : List Int32} {v_now_bend : List Int32} {v_now_tall : List Int32} {v_kept_bend : List Int32} {v_kept_tall : List Int32} (g_0 : gi_sh v_now_rows v_now_cols v_now_high v_now_wide v_now_rowOf v_now_colOf v_now_below v_now_face v_now_worn v_now_last v_now_bend v_now_tall) (g_1 : gi_sh v_kept_rows v_kept_cols v_kept_high v_kept_wide v_kept_rowOf v_kept_colOf v_kept_below v_kept_face v_kept_worn v_kept_last v_kept_bend v_kept_tall) : wp (fX8_image 700 v_hasImage v_now_rows v_now_cols v_now_high v_now_wide v_now_folds v_now_wrong v_now_more v_now_rowOf v_now_colOf v_now_below v_now_face v_now_worn v_now_last v_kept_rows v_kept_cols v_kept_high v_kept_wide v_kept_folds v_kept_wrong v_kept_more v_kept_rowOf v_kept_colOf v_kept_below v_kept_face v_kept_worn v_kept_last) (cu15 (fun (r : Int32) (wv_hasImage : Bool) (wv_kept_rows : Int32) (wv_kept_cols : Int32) (wv_kept_high : Int32) (wv_kept_wide : Int32) (wv_kept_folds : Int32) (wv_kept_wrong : Int32) (wv_kept_more : Int32) (wv_kept_rowOf : List Int32) (wv_kept_colOf : List Int32) (wv_kept_below : List Int32) (wv_kept_face : List Int32) (wv_kept_worn : List Int32) (wv_kept_last : List Int32) => wv_hasImage = true ∧ wv_kept_rows = v_now_rows ∧ wv_kept_cols = v_now_cols)) := by
  obtain ⟨k0, k1, k2, k3, k4, k5, k6, k7, k8, k9, k10, k11, k12, k13, k14, k15, k16, k17⟩ := id g_1
  obtain ⟨n0, n1, n2, n3, n4, n5, n6, n7, n8, n9, n10, n11, n12, n13, n14, n15, n16, n17⟩ := id g_0
  unfold fX8_image
  exact wp_bd13 (sf_X5_copy (Nat.le_refl 700) k0 k1 k2 k3 k4 k5 k6 k7 k8 k9 k10 k11 k12 k13 n0 n1 n2 n3 n4 n5 n6 n7 n8 n9 n10 n11 n12 n13 n16 n17) (fun w0 w1 w2 w3 w4 w5 w6 w7 w8 w9 w10 w11 w12 ⟨_, _, _, _, _, _, _, _, _, _, _, _, _, _, _, _, j0, j1, _⟩ => wp_so15 ⟨rfl, ti_eq j0, ti_eq j1⟩)
set_option maxHeartbeats 4000000 in
set_option maxRecDepth 20000 in
theorem ba8 {v_hasImage : Bool} {v_now_rows : Int32} {v_now_cols : Int32} {v_now_high : Int32} {v_now_wide : Int32} {v_now_folds : Int32} {v_now_wrong : Int32} {v_now_more : Int32} {v_now_rowOf : List Int32} {v_now_colOf : List Int32} {v_now_below : List Int32} {v_now_face : List Int32} {v_now_worn : List Int32} {v_now_last : List Int32} {v_kept_rows : Int32} {v_kept_cols : Int32} {v_kept_high : Int32} {v_kept_wide : Int32} {v_kept_folds : Int32} {v_kept_wrong : Int32} {v_kept_more : Int32} {v_kept_rowOf : List Int32} {v_kept_colOf : List Int32} {v_kept_below : List Int32} {v_kept_face : List Int32} {v_kept_worn : List Int32} {v_kept_last : List Int32} {v_now_bend : List Int32} {v_now_tall : List Int32} {v_kept_bend : List Int32} {v_kept_tall : List Int32} (g_0 : gi_sh v_now_rows v_now_cols v_now_high v_now_wide v_now_rowOf v_now_colOf v_now_below v_now_face v_now_worn v_now_last v_now_bend v_now_tall) (g_1 : gi_sh v_kept_rows v_kept_cols v_kept_high v_kept_wide v_kept_rowOf v_kept_colOf v_kept_below v_kept_face v_kept_worn v_kept_last v_kept_bend v_kept_tall) : wp (fX8_back 700 v_hasImage v_now_rows v_now_cols v_now_high v_now_wide v_now_folds v_now_wrong v_now_more v_now_rowOf v_now_colOf v_now_below v_now_face v_now_worn v_now_last v_kept_rows v_kept_cols v_kept_high v_kept_wide v_kept_folds v_kept_wrong v_kept_more v_kept_rowOf v_kept_colOf v_kept_below v_kept_face v_kept_worn v_kept_last) (cu14 (fun (r : Int32) (wv_now_rows : Int32) (wv_now_cols : Int32) (wv_now_high : Int32) (wv_now_wide : Int32) (wv_now_folds : Int32) (wv_now_wrong : Int32) (wv_now_more : Int32) (wv_now_rowOf : List Int32) (wv_now_colOf : List Int32) (wv_now_below : List Int32) (wv_now_face : List Int32) (wv_now_worn : List Int32) (wv_now_last : List Int32) => (v_hasImage = false → wv_now_rows = v_now_rows ∧ wv_now_cols = v_now_cols) ∧ (v_hasImage = true → wv_now_rows = v_kept_rows ∧ wv_now_cols = v_kept_cols))) := by
  obtain ⟨k0, k1, k2, k3, k4, k5, k6, k7, k8, k9, k10, k11, k12, k13, k14, k15, k16, k17⟩ := id g_1
  obtain ⟨n0, n1, n2, n3, n4, n5, n6, n7, n8, n9, n10, n11, n12, n13, n14, n15, n16, n17⟩ := id g_0
  unfold fX8_back
  refine wp_if (fun c => wp_so14 ⟨fun _ => ⟨rfl, rfl⟩, fun h => absurd (c.symm.trans h) (by decide)⟩) (fun c => ?_)
  exact wp_bd13 (sf_X5_copy (Nat.le_refl 700) n0 n1 n2 n3 n4 n5 n6 n7 n8 n9 n10 n11 n12 n13 k0 k1 k2 k3 k4 k5 k6 k7 k8 k9 k10 k11 k12 k13 k16 k17) (fun w0 w1 w2 w3 w4 w5 w6 w7 w8 w9 w10 w11 w12 ⟨_, _, _, _, _, _, _, _, _, _, _, _, _, _, _, _, j0, j1, _⟩ => wp_so14 ⟨fun h => absurd h c, fun _ => ⟨ti_eq j0, ti_eq j1⟩⟩)
set_option maxHeartbeats 4000000 in
set_option maxRecDepth 20000 in
theorem im9 {v_rowsOf : Int32} {v_columnsOf : Int32} {v_folded : Int32} {v_wronged : Int32} {v_isKept : Bool} {v_imageRows : Int32} {v_imageColumns : Int32} {v_imageFolded : Int32} {v_imageWronged : Int32} {v_shapeRows : List Int32} {v_shapeColumns : List Int32} {v_row : List Int32} {v_column : List Int32} {v_below : List Int32} {v_face : List Int32} {v_worn : List Int32} {v_lastBend : List Int32} (g_0 : gm_sh v_rowsOf v_columnsOf v_isKept v_imageRows v_imageColumns v_shapeRows v_shapeColumns v_row v_column v_below v_face v_worn v_lastBend) : wp (fX9_image 700 v_rowsOf v_columnsOf v_folded v_wronged v_isKept v_imageRows v_imageColumns v_imageFolded v_imageWronged v_shapeRows v_shapeColumns v_row v_column v_below v_face v_worn v_lastBend) (cu14 (fun (r : Int32) (wv_isKept : Bool) (wv_imageRows : Int32) (wv_imageColumns : Int32) (wv_imageFolded : Int32) (wv_imageWronged : Int32) (wv_shapeRows : List Int32) (wv_shapeColumns : List Int32) (wv_row : List Int32) (wv_column : List Int32) (wv_below : List Int32) (wv_face : List Int32) (wv_worn : List Int32) (wv_lastBend : List Int32) => wv_isKept = true ∧ wv_imageRows = v_rowsOf ∧ wv_imageColumns = v_columnsOf)) := by
  obtain ⟨⟨r, a0, a1, a2, a3, a4, a5, a6, a7, a8, a9, a10, a11, a12⟩, e, -⟩ := st9_image (v_folded := v_folded) (v_wronged := v_wronged) (v_imageFolded := v_imageFolded) (v_imageWronged := v_imageWronged) g_0
  have e1 := e
  unfold fX9_image at e1
  obtain ⟨⟨b0, b1, b2, b3, b4, b5, b6, b7⟩, eb, e2⟩ := bi_8 e1
  injection e2 with e2
  injection e2 with c0 e2
  injection e2 with c1 e2
  injection e2 with c2 e2
  injection e2 with c3 e2
  exact ⟨_, e, c1.symm, c2.symm, c3.symm⟩
set_option maxHeartbeats 4000000 in
set_option maxRecDepth 20000 in
theorem ba9 {v_rowsOf : Int32} {v_columnsOf : Int32} {v_folded : Int32} {v_wronged : Int32} {v_isKept : Bool} {v_imageRows : Int32} {v_imageColumns : Int32} {v_imageFolded : Int32} {v_imageWronged : Int32} {v_shapeRows : List Int32} {v_shapeColumns : List Int32} {v_row : List Int32} {v_column : List Int32} {v_below : List Int32} {v_face : List Int32} {v_worn : List Int32} {v_lastBend : List Int32} (g_0 : gm_sh v_rowsOf v_columnsOf v_isKept v_imageRows v_imageColumns v_shapeRows v_shapeColumns v_row v_column v_below v_face v_worn v_lastBend) : wp (fX9_back 700 v_rowsOf v_columnsOf v_folded v_wronged v_isKept v_imageRows v_imageColumns v_imageFolded v_imageWronged v_shapeRows v_shapeColumns v_row v_column v_below v_face v_worn v_lastBend) (cu13 (fun (r : Int32) (wv_rowsOf : Int32) (wv_columnsOf : Int32) (wv_folded : Int32) (wv_wronged : Int32) (wv_shapeRows : List Int32) (wv_shapeColumns : List Int32) (wv_row : List Int32) (wv_column : List Int32) (wv_below : List Int32) (wv_face : List Int32) (wv_worn : List Int32) (wv_lastBend : List Int32) => (v_isKept = false → wv_rowsOf = v_rowsOf ∧ wv_columnsOf = v_columnsOf) ∧ (v_isKept = true → wv_rowsOf = v_imageRows ∧ wv_columnsOf = v_imageColumns))) := by
  obtain ⟨⟨r, a0, a1, a2, a3, a4, a5, a6, a7, a8, a9, a10, a11⟩, e, -⟩ := st9_back (v_folded := v_folded) (v_wronged := v_wronged) (v_imageFolded := v_imageFolded) (v_imageWronged := v_imageWronged) g_0
  have e1 := e
  unfold fX9_back at e1
  by_cases c : v_isKept = false
  · rw [if_pos c] at e1
    injection e1 with e2
    injection e2 with c0 e2
    injection e2 with c1 e2
    injection e2 with c2 e2
    exact ⟨_, e, fun _ => ⟨c1.symm, c2.symm⟩, fun h => absurd (c.symm.trans h) (by decide)⟩
  · rw [if_neg c] at e1
    obtain ⟨⟨b0, b1, b2, b3, b4, b5, b6, b7⟩, eb, e2⟩ := bi_8 e1
    injection e2 with e2
    injection e2 with c0 e2
    injection e2 with c1 e2
    injection e2 with c2 e2
    exact ⟨_, e, fun h => absurd h c, fun _ => ⟨c1.symm, c2.symm⟩⟩
theorem rs_sheet_dm {x1 : Int32} {v_now_rows : Int32} {v_now_cols : Int32} {v_now_high : Int32} {v_now_wide : Int32} {v_now_folds : Int32} {v_now_wrong : Int32} {v_now_more : Int32} {v_now_rowOf : List Int32} {v_now_colOf : List Int32} {v_now_below : List Int32} {v_now_face : List Int32} {v_now_worn : List Int32} {v_now_last : List Int32} {v_now_bend : List Int32} {v_now_tall : List Int32} {v_hasImage : Bool} {v_kept_rows : Int32} {v_kept_cols : Int32} {m_rowsOf : Int32} {m_columnsOf : Int32} {m_folded : Int32} {m_wronged : Int32} {m_shapeRows : List Int32} {m_shapeColumns : List Int32} {m_row : List Int32} {m_column : List Int32} {m_below : List Int32} {m_face : List Int32} {m_worn : List Int32} {m_lastBend : List Int32} {m_isKept : Bool} {m_imageRows : Int32} {m_imageColumns : Int32} (g8_0 : gi_sh v_now_rows v_now_cols v_now_high v_now_wide v_now_rowOf v_now_colOf v_now_below v_now_face v_now_worn v_now_last v_now_bend v_now_tall) (g9_0 : gm_sh m_rowsOf m_columnsOf m_isKept m_imageRows m_imageColumns m_shapeRows m_shapeColumns m_row m_column m_below m_face m_worn m_lastBend) (hr_0 : rl_dm v_now_rows v_now_cols v_hasImage v_kept_rows v_kept_cols m_rowsOf m_columnsOf m_isKept m_imageRows m_imageColumns) : ∃ (r : Int32) (p_now_rows : Int32) (p_now_cols : Int32) (p_now_high : Int32) (p_now_wide : Int32) (p_now_folds : Int32) (p_now_wrong : Int32) (p_now_more : Int32) (p_now_rowOf : List Int32) (p_now_colOf : List Int32) (p_now_below : List Int32) (p_now_face : List Int32) (p_now_worn : List Int32) (p_now_last : List Int32) (q_rowsOf : Int32) (q_columnsOf : Int32) (q_folded : Int32) (q_wronged : Int32) (q_shapeRows : List Int32) (q_shapeColumns : List Int32) (q_row : List Int32) (q_column : List Int32) (q_below : List Int32) (q_face : List Int32) (q_worn : List Int32) (q_lastBend : List Int32), fX8_sheet 700 x1 v_now_rows v_now_cols v_now_high v_now_wide v_now_folds v_now_wrong v_now_more v_now_rowOf v_now_colOf v_now_below v_now_face v_now_worn v_now_last = some (r, p_now_rows, p_now_cols, p_now_high, p_now_wide, p_now_folds, p_now_wrong, p_now_more, p_now_rowOf, p_now_colOf, p_now_below, p_now_face, p_now_worn, p_now_last) ∧ fX9_sheet 700 x1 m_rowsOf m_columnsOf m_folded m_wronged m_shapeRows m_shapeColumns m_row m_column m_below m_face m_worn m_lastBend = some (r, q_rowsOf, q_columnsOf, q_folded, q_wronged, q_shapeRows, q_shapeColumns, q_row, q_column, q_below, q_face, q_worn, q_lastBend) ∧ gi_sh p_now_rows p_now_cols p_now_high p_now_wide p_now_rowOf p_now_colOf p_now_below p_now_face p_now_worn p_now_last v_now_bend v_now_tall ∧ gm_sh q_rowsOf q_columnsOf m_isKept m_imageRows m_imageColumns q_shapeRows q_shapeColumns q_row q_column q_below q_face q_worn q_lastBend ∧ rl_dm p_now_rows p_now_cols v_hasImage v_kept_rows v_kept_cols q_rowsOf q_columnsOf m_isKept m_imageRows m_imageColumns := by
  obtain ⟨rfl, rfl, hk, hi⟩ := hr_0
  obtain ⟨⟨r8, p0, p1, p2, p3, p4, p5, p6, p7, p8, p9, p10, p11, p12⟩, e8, h8⟩ := sx8_sheet (x1 := x1) (v_now_folds := v_now_folds) (v_now_wrong := v_now_wrong) (v_now_more := v_now_more) g8_0
  obtain ⟨⟨r9, q0, q1, q2, q3, q4, q5, q6, q7, q8, q9, q10, q11⟩, e9, h9⟩ := sx9_sheet (x1 := x1) (v_folded := m_folded) (v_wronged := m_wronged) g9_0
  simp only [cu14] at h8
  simp only [cu13] at h9
  have er : r9 = r8 := ti_eq (by omega)
  have e1 : q0 = p0 := ti_eq (by omega)
  have e2 : q1 = p1 := ti_eq (by omega)
  subst er
  have k8 := wp_get (st8_sheet g8_0) e8
  have k9 := wp_get (st9_sheet g9_0) e9
  exact ⟨_, _, _, _, _, _, _, _, _, _, _, _, _, _, _, _, _, _, _, _, _, _, _, _, _, _, e8, e9, k8, k9, e1, e2, hk, hi⟩
theorem rs_image_dm {v_hasImage : Bool} {v_now_rows : Int32} {v_now_cols : Int32} {v_now_high : Int32} {v_now_wide : Int32} {v_now_folds : Int32} {v_now_wrong : Int32} {v_now_more : Int32} {v_now_rowOf : List Int32} {v_now_colOf : List Int32} {v_now_below : List Int32} {v_now_face : List Int32} {v_now_worn : List Int32} {v_now_last : List Int32} {v_kept_rows : Int32} {v_kept_cols : Int32} {v_kept_high : Int32} {v_kept_wide : Int32} {v_kept_folds : Int32} {v_kept_wrong : Int32} {v_kept_more : Int32} {v_kept_rowOf : List Int32} {v_kept_colOf : List Int32} {v_kept_below : List Int32} {v_kept_face : List Int32} {v_kept_worn : List Int32} {v_kept_last : List Int32} {v_now_bend : List Int32} {v_now_tall : List Int32} {v_kept_bend : List Int32} {v_kept_tall : List Int32} {m_rowsOf : Int32} {m_columnsOf : Int32} {m_folded : Int32} {m_wronged : Int32} {m_isKept : Bool} {m_imageRows : Int32} {m_imageColumns : Int32} {m_imageFolded : Int32} {m_imageWronged : Int32} {m_shapeRows : List Int32} {m_shapeColumns : List Int32} {m_row : List Int32} {m_column : List Int32} {m_below : List Int32} {m_face : List Int32} {m_worn : List Int32} {m_lastBend : List Int32} (g8_0 : gi_sh v_now_rows v_now_cols v_now_high v_now_wide v_now_rowOf v_now_colOf v_now_below v_now_face v_now_worn v_now_last v_now_bend v_now_tall) (g8_1 : gi_sh v_kept_rows v_kept_cols v_kept_high v_kept_wide v_kept_rowOf v_kept_colOf v_kept_below v_kept_face v_kept_worn v_kept_last v_kept_bend v_kept_tall) (g9_0 : gm_sh m_rowsOf m_columnsOf m_isKept m_imageRows m_imageColumns m_shapeRows m_shapeColumns m_row m_column m_below m_face m_worn m_lastBend) (hr_0 : rl_dm v_now_rows v_now_cols v_hasImage v_kept_rows v_kept_cols m_rowsOf m_columnsOf m_isKept m_imageRows m_imageColumns) : ∃ (r8 : Int32) (p_hasImage : Bool) (p_kept_rows : Int32) (p_kept_cols : Int32) (p_kept_high : Int32) (p_kept_wide : Int32) (p_kept_folds : Int32) (p_kept_wrong : Int32) (p_kept_more : Int32) (p_kept_rowOf : List Int32) (p_kept_colOf : List Int32) (p_kept_below : List Int32) (p_kept_face : List Int32) (p_kept_worn : List Int32) (p_kept_last : List Int32) (r9 : Int32) (q_isKept : Bool) (q_imageRows : Int32) (q_imageColumns : Int32) (q_imageFolded : Int32) (q_imageWronged : Int32) (q_shapeRows : List Int32) (q_shapeColumns : List Int32) (q_row : List Int32) (q_column : List Int32) (q_below : List Int32) (q_face : List Int32) (q_worn : List Int32) (q_lastBend : List Int32), fX8_image 700 v_hasImage v_now_rows v_now_cols v_now_high v_now_wide v_now_folds v_now_wrong v_now_more v_now_rowOf v_now_colOf v_now_below v_now_face v_now_worn v_now_last v_kept_rows v_kept_cols v_kept_high v_kept_wide v_kept_folds v_kept_wrong v_kept_more v_kept_rowOf v_kept_colOf v_kept_below v_kept_face v_kept_worn v_kept_last = some (r8, p_hasImage, p_kept_rows, p_kept_cols, p_kept_high, p_kept_wide, p_kept_folds, p_kept_wrong, p_kept_more, p_kept_rowOf, p_kept_colOf, p_kept_below, p_kept_face, p_kept_worn, p_kept_last) ∧ fX9_image 700 m_rowsOf m_columnsOf m_folded m_wronged m_isKept m_imageRows m_imageColumns m_imageFolded m_imageWronged m_shapeRows m_shapeColumns m_row m_column m_below m_face m_worn m_lastBend = some (r9, q_isKept, q_imageRows, q_imageColumns, q_imageFolded, q_imageWronged, q_shapeRows, q_shapeColumns, q_row, q_column, q_below, q_face, q_worn, q_lastBend) ∧ gi_sh p_kept_rows p_kept_cols p_kept_high p_kept_wide p_kept_rowOf p_kept_colOf p_kept_below p_kept_face p_kept_worn p_kept_last v_kept_bend v_kept_tall ∧ gm_sh m_rowsOf m_columnsOf q_isKept q_imageRows q_imageColumns q_shapeRows q_shapeColumns q_row q_column q_below q_face q_worn q_lastBend ∧ rl_dm v_now_rows v_now_cols p_hasImage p_kept_rows p_kept_cols m_rowsOf m_columnsOf q_isKept q_imageRows q_imageColumns := by
  obtain ⟨e_r, e_c, hk, hi⟩ := hr_0
  obtain ⟨⟨r8, p0, p1, p2, p3, p4, p5, p6, p7, p8, p9, p10, p11, p12, p13⟩, e8, h8⟩ := im8 (v_hasImage := v_hasImage) (v_now_folds := v_now_folds) (v_now_wrong := v_now_wrong) (v_now_more := v_now_more) (v_kept_folds := v_kept_folds) (v_kept_wrong := v_kept_wrong) (v_kept_more := v_kept_more) g8_0 g8_1
  obtain ⟨⟨r9, q0, q1, q2, q3, q4, q5, q6, q7, q8, q9, q10, q11, q12⟩, e9, h9⟩ := im9 (v_folded := m_folded) (v_wronged := m_wronged) (v_imageFolded := m_imageFolded) (v_imageWronged := m_imageWronged) g9_0
  have j8 : p0 = true ∧ p1 = v_now_rows ∧ p2 = v_now_cols := h8
  have j9 : q0 = true ∧ q1 = m_rowsOf ∧ q2 = m_columnsOf := h9
  have k8 := wp_get (st8_image g8_0 g8_1) e8
  have k9 := wp_get (st9_image g9_0) e9
  exact ⟨_, _, _, _, _, _, _, _, _, _, _, _, _, _, _, _, _, _, _, _, _, _, _, _, _, _, _, _, _, e8, e9, k8, k9, e_r, e_c, by rw [j8.1, j9.1], fun _ => ⟨by rw [j8.2.1, j9.2.1, e_r], by rw [j8.2.2, j9.2.2, e_c]⟩⟩
theorem rs_back_dm {v_hasImage : Bool} {v_now_rows : Int32} {v_now_cols : Int32} {v_now_high : Int32} {v_now_wide : Int32} {v_now_folds : Int32} {v_now_wrong : Int32} {v_now_more : Int32} {v_now_rowOf : List Int32} {v_now_colOf : List Int32} {v_now_below : List Int32} {v_now_face : List Int32} {v_now_worn : List Int32} {v_now_last : List Int32} {v_kept_rows : Int32} {v_kept_cols : Int32} {v_kept_high : Int32} {v_kept_wide : Int32} {v_kept_folds : Int32} {v_kept_wrong : Int32} {v_kept_more : Int32} {v_kept_rowOf : List Int32} {v_kept_colOf : List Int32} {v_kept_below : List Int32} {v_kept_face : List Int32} {v_kept_worn : List Int32} {v_kept_last : List Int32} {v_now_bend : List Int32} {v_now_tall : List Int32} {v_kept_bend : List Int32} {v_kept_tall : List Int32} {m_rowsOf : Int32} {m_columnsOf : Int32} {m_folded : Int32} {m_wronged : Int32} {m_isKept : Bool} {m_imageRows : Int32} {m_imageColumns : Int32} {m_imageFolded : Int32} {m_imageWronged : Int32} {m_shapeRows : List Int32} {m_shapeColumns : List Int32} {m_row : List Int32} {m_column : List Int32} {m_below : List Int32} {m_face : List Int32} {m_worn : List Int32} {m_lastBend : List Int32} (g8_0 : gi_sh v_now_rows v_now_cols v_now_high v_now_wide v_now_rowOf v_now_colOf v_now_below v_now_face v_now_worn v_now_last v_now_bend v_now_tall) (g8_1 : gi_sh v_kept_rows v_kept_cols v_kept_high v_kept_wide v_kept_rowOf v_kept_colOf v_kept_below v_kept_face v_kept_worn v_kept_last v_kept_bend v_kept_tall) (g9_0 : gm_sh m_rowsOf m_columnsOf m_isKept m_imageRows m_imageColumns m_shapeRows m_shapeColumns m_row m_column m_below m_face m_worn m_lastBend) (hr_0 : rl_dm v_now_rows v_now_cols v_hasImage v_kept_rows v_kept_cols m_rowsOf m_columnsOf m_isKept m_imageRows m_imageColumns) : ∃ (r8 : Int32) (p_now_rows : Int32) (p_now_cols : Int32) (p_now_high : Int32) (p_now_wide : Int32) (p_now_folds : Int32) (p_now_wrong : Int32) (p_now_more : Int32) (p_now_rowOf : List Int32) (p_now_colOf : List Int32) (p_now_below : List Int32) (p_now_face : List Int32) (p_now_worn : List Int32) (p_now_last : List Int32) (r9 : Int32) (q_rowsOf : Int32) (q_columnsOf : Int32) (q_folded : Int32) (q_wronged : Int32) (q_shapeRows : List Int32) (q_shapeColumns : List Int32) (q_row : List Int32) (q_column : List Int32) (q_below : List Int32) (q_face : List Int32) (q_worn : List Int32) (q_lastBend : List Int32), fX8_back 700 v_hasImage v_now_rows v_now_cols v_now_high v_now_wide v_now_folds v_now_wrong v_now_more v_now_rowOf v_now_colOf v_now_below v_now_face v_now_worn v_now_last v_kept_rows v_kept_cols v_kept_high v_kept_wide v_kept_folds v_kept_wrong v_kept_more v_kept_rowOf v_kept_colOf v_kept_below v_kept_face v_kept_worn v_kept_last = some (r8, p_now_rows, p_now_cols, p_now_high, p_now_wide, p_now_folds, p_now_wrong, p_now_more, p_now_rowOf, p_now_colOf, p_now_below, p_now_face, p_now_worn, p_now_last) ∧ fX9_back 700 m_rowsOf m_columnsOf m_folded m_wronged m_isKept m_imageRows m_imageColumns m_imageFolded m_imageWronged m_shapeRows m_shapeColumns m_row m_column m_below m_face m_worn m_lastBend = some (r9, q_rowsOf, q_columnsOf, q_folded, q_wronged, q_shapeRows, q_shapeColumns, q_row, q_column, q_below, q_face, q_worn, q_lastBend) ∧ gi_sh p_now_rows p_now_cols p_now_high p_now_wide p_now_rowOf p_now_colOf p_now_below p_now_face p_now_worn p_now_last v_now_bend v_now_tall ∧ gm_sh q_rowsOf q_columnsOf m_isKept m_imageRows m_imageColumns q_shapeRows q_shapeColumns q_row q_column q_below q_face q_worn q_lastBend ∧ rl_dm p_now_rows p_now_cols v_hasImage v_kept_rows v_kept_cols q_rowsOf q_columnsOf m_isKept m_imageRows m_imageColumns := by
  obtain ⟨e_r, e_c, hk, hi⟩ := hr_0
  obtain ⟨⟨r8, p0, p1, p2, p3, p4, p5, p6, p7, p8, p9, p10, p11, p12⟩, e8, h8⟩ := ba8 (v_hasImage := v_hasImage) (v_now_folds := v_now_folds) (v_now_wrong := v_now_wrong) (v_now_more := v_now_more) (v_kept_folds := v_kept_folds) (v_kept_wrong := v_kept_wrong) (v_kept_more := v_kept_more) g8_0 g8_1
  obtain ⟨⟨r9, q0, q1, q2, q3, q4, q5, q6, q7, q8, q9, q10, q11⟩, e9, h9⟩ := ba9 (v_folded := m_folded) (v_wronged := m_wronged) (v_imageFolded := m_imageFolded) (v_imageWronged := m_imageWronged) g9_0
  have j8 : (v_hasImage = false → p0 = v_now_rows ∧ p1 = v_now_cols) ∧ (v_hasImage = true → p0 = v_kept_rows ∧ p1 = v_kept_cols) := h8
  have j9 : (m_isKept = false → q0 = m_rowsOf ∧ q1 = m_columnsOf) ∧ (m_isKept = true → q0 = m_imageRows ∧ q1 = m_imageColumns) := h9
  have J : q0 = p0 ∧ q1 = p1 := by
    cases hb : v_hasImage with
    | false =>
      obtain ⟨x0, x1⟩ := j8.1 hb
      obtain ⟨y0, y1⟩ := j9.1 (by rw [hk, hb])
      exact ⟨by rw [x0, y0, e_r], by rw [x1, y1, e_c]⟩
    | true =>
      obtain ⟨x0, x1⟩ := j8.2 hb
      obtain ⟨y0, y1⟩ := j9.2 (by rw [hk, hb])
      obtain ⟨z0, z1⟩ := hi hb
      exact ⟨by rw [x0, y0, z0], by rw [x1, y1, z1]⟩
  have k8 := wp_get (st8_back g8_0 g8_1) e8
  have k9 := wp_get (st9_back g9_0) e9
  exact ⟨_, _, _, _, _, _, _, _, _, _, _, _, _, _, _, _, _, _, _, _, _, _, _, _, _, _, _, e8, e9, k8, k9, J.1, J.2, hk, hi⟩
