/-! The reference: each call keeps the invariants -/

theorem sfb_X9_body {x1 : Int32} {v_bodies : Int32} {v_bodyKind : List Int32} (h_0 : 0 ≤ v_bodies.toInt) (h_1 : v_bodies.toInt ≤ 50) (h_2 : v_bodyKind.length = 50) (h_3 : zn v_bodyKind 0 v_bodies.toInt 0 8) : wp (fX9_body 700 x1 v_bodies v_bodyKind) (cu3 (fun (r : Int32) (wv_bodies : Int32) (wv_bodyKind : List Int32) => 0 ≤ wv_bodies.toInt ∧ wv_bodies.toInt ≤ 50 ∧ wv_bodyKind.length = 50 ∧ zn wv_bodyKind 0 wv_bodies.toInt 0 8)) := by
  unfold fX9_body
  have n_1 := i_64 x1
  have n_2 : (0 : Int64).toInt = 0 := by decide
  have n_3 : (7 : Int64).toInt = 7 := by decide
  have n_4 : (1 : Int32).toInt = 1 := by decide
  have n_5 : (50 : Int32).toInt = 50 := by decide
  refine wp_bd1 (sf_X9_within (Nat.le_refl 700)) (fun r q => ?_)
  rcases q with ⟨rfl, q0, q1⟩ | ⟨rfl, -⟩
  · refine wp_ifn (by decide) ?_
    refine wp_if (fun _ => wp_so3 ⟨h_0, h_1, h_2, h_3⟩) (fun c1 => ?_)
    have d1 : v_bodies.toInt < 50 := by
      have : v_bodies.toInt ≠ 50 := fun e => c1 (Int32.toInt_inj.mp (by omega))
      omega
    refine wp_ck (i_inb (by omega) (by omega)) ?_
    refine wp_nm (fun l hl => ?_)
    refine wp_nm (fun y hy => ?_)
    have e := i_addE hy.symm (by omega) (by omega)
    subst hl
    exact wp_so3 ⟨by omega, by omega, by rw [is_len]; exact h_2, zn_ext h_3 h_0 rfl (by omega) (by omega) (by omega)⟩
  · refine wp_ifp rfl ?_
    exact wp_so3 ⟨h_0, h_1, h_2, h_3⟩
theorem sb_X9_isBody {x1 : Int32} {v_bodies : Int32} (h_0 : 0 ≤ v_bodies.toInt) (h_1 : v_bodies.toInt ≤ 50) : wp (fX9_isBody 700 x1 v_bodies) (fun (r : Bool) => (r = true ∧ 0 ≤ x1.toInt ∧ x1.toInt < v_bodies.toInt) ∨ (r = false ∧ True)) := by
  unfold fX9_isBody
  have n_1 := i_64 x1
  have n_2 : (0 : Int64).toInt = 0 := by decide
  have n_4 : (1 : Int32).toInt = 1 := by decide
  have n_3 := i_64 (v_bodies - (1 : Int32))
  have e := i_subE (rfl : v_bodies - (1 : Int32) = _) (by omega) (by omega)
  refine wp_bd1 (sf_X9_within (Nat.le_refl 700)) (fun r q => ?_)
  rcases q with ⟨rfl, q0, q1⟩ | ⟨rfl, -⟩
  · exact wp_so1 (Or.inl ⟨rfl, by rw [n_1, n_2] at q0; exact q0, by rw [n_1, n_3, e, n_4] at q1; omega⟩)
  · exact wp_so1 (Or.inr ⟨rfl, trivial⟩)
theorem st9_act {x1 : Int32} {x2 : Int32} {x3 : Int32} {v_bodies : Int32} {v_ran : Int32} {v_ownKind : Int32} {v_ownNumber : Int32} {v_bodyKind : List Int32} {v_trace : List Int32} (g_0 : gm_bo v_bodies v_bodyKind v_trace) : wp (fX9_act 700 x1 x2 x3 v_bodies v_ran v_ownKind v_ownNumber v_bodyKind v_trace) (cu5 (fun (r : Int32) (wv_ran : Int32) (wv_ownKind : Int32) (wv_ownNumber : Int32) (wv_trace : List Int32) => gm_bo v_bodies v_bodyKind wv_trace)) := by
  obtain ⟨a_0, a_1, a_2, a_3, a_4⟩ := id g_0
  unfold fX9_act
  refine wp_bd1 (sb_X9_isBody a_0 a_1) (fun r q => ?_)
  rcases q with ⟨rfl, q0, q1⟩ | ⟨rfl, -⟩
  · refine wp_ifn (by decide) ?_
    refine wp_ck (i_inb (by omega) (by omega)) ?_
    refine wp_nm (fun y hy => ?_)
    have z := zn_get a_4 q0 q0 (by omega) (by omega)
    rw [← hy] at z
    have F : ∀ (t : List Int32), t.length = 24 → gm_bo v_bodies v_bodyKind t := fun t h => ⟨a_0, a_1, a_2, h, a_4⟩
    refine wp_if (fun _ => ?_) (fun _ => wp_if (fun _ => ?_) (fun _ => wp_if (fun _ => ?_) (fun _ => wp_if (fun _ => ?_) (fun _ => wp_so5 g_0))))
    · obtain ⟨r, c, t, -, e1, e3⟩ := ac_0 z.1 z.2 x3 x1 v_trace a_3
      exact wp_bd3 (R := fun (_ : Int32) (_ : Int32) (t : List Int32) => t.length = 24) ⟨(r, c, t), e1, e3⟩ (fun _ _ _ h => wp_so5 (F _ h))
    · obtain ⟨r, c, t, -, e1, e3⟩ := ac_1 z.1 z.2 x3 x1 v_trace a_3
      exact wp_bd3 (R := fun (_ : Int32) (_ : Int32) (t : List Int32) => t.length = 24) ⟨(r, c, t), e1, e3⟩ (fun _ _ _ h => wp_so5 (F _ h))
    · obtain ⟨r, c, t, -, e1, e3⟩ := ac_2 z.1 z.2 x3 x1 v_trace a_3
      exact wp_bd3 (R := fun (_ : Int32) (_ : Int32) (t : List Int32) => t.length = 24) ⟨(r, c, t), e1, e3⟩ (fun _ _ _ h => wp_so5 (F _ h))
    · obtain ⟨r, c, t, -, e1, e3⟩ := ac_3 z.1 z.2 x3 x1 v_trace a_3
      exact wp_bd3 (R := fun (_ : Int32) (_ : Int32) (t : List Int32) => t.length = 24) ⟨(r, c, t), e1, e3⟩ (fun _ _ _ h => wp_so5 (F _ h))
  · refine wp_ifp rfl ?_
    exact wp_so5 g_0
set_option maxHeartbeats 4000000 in
set_option maxRecDepth 20000 in
theorem st9_sheet {x1 : Int32} {v_rowsOf : Int32} {v_columnsOf : Int32} {v_folded : Int32} {v_wronged : Int32} {v_shapeRows : List Int32} {v_shapeColumns : List Int32} {v_row : List Int32} {v_column : List Int32} {v_below : List Int32} {v_face : List Int32} {v_worn : List Int32} {v_lastBend : List Int32} {v_isKept : Bool} {v_imageRows : Int32} {v_imageColumns : Int32} (g_0 : gm_sh v_rowsOf v_columnsOf v_isKept v_imageRows v_imageColumns v_shapeRows v_shapeColumns v_row v_column v_below v_face v_worn v_lastBend) : wp (fX9_sheet 700 x1 v_rowsOf v_columnsOf v_folded v_wronged v_shapeRows v_shapeColumns v_row v_column v_below v_face v_worn v_lastBend) (cu13 (fun (r : Int32) (wv_rowsOf : Int32) (wv_columnsOf : Int32) (wv_folded : Int32) (wv_wronged : Int32) (wv_shapeRows : List Int32) (wv_shapeColumns : List Int32) (wv_row : List Int32) (wv_column : List Int32) (wv_below : List Int32) (wv_face : List Int32) (wv_worn : List Int32) (wv_lastBend : List Int32) => gm_sh wv_rowsOf wv_columnsOf v_isKept v_imageRows v_imageColumns wv_shapeRows wv_shapeColumns wv_row wv_column wv_below wv_face wv_worn wv_lastBend)) := by
  obtain ⟨a_0_0, a_0_1, a_0_2, a_0_3, a_0_4, a_0_5, a_0_6, a_0_7, a_0_8, a_0_9, a_0_10, a_0_11, a_0_12, a_0_13⟩ := id g_0
  have n0 : (0 : Int32).toInt = 0 := by decide
  have n1 : (1 : Int32).toInt = 1 := by decide
  have n5 : (5 : Int32).toInt = 5 := by decide
  refine wp_cu13 (sf_X9_sheet (u_row := v_row) (u_col := v_column) (u_sR := v_shapeRows) (u_sC := v_shapeColumns) (A := 0) (B9 := 32) (a9 := 0) (b9 := 1) (Nat.le_refl 700) a_0_0 a_0_1 a_0_2 a_0_3 a_0_4 a_0_5 a_0_6 a_0_7 a_0_8 a_0_9 a_0_10 a_0_11 (fr_refl _ _ _) (fr_refl _ _ _) (fr_refl _ _ _) (fr_refl _ _ _) (by omega) (by omega) (by omega) (by omega) a_0_12) (fun r wv_rowsOf wv_columnsOf wv_folded wv_wronged wv_shapeRows wv_shapeColumns wv_row wv_column wv_below wv_face wv_worn wv_lastBend ⟨q_0, q_1, q_2, q_3, q_4, q_5, q_6, q_7, q_8, q_9, q_10, q_11, q_12, q_13, q_14, q_15, q_16⟩ => ?_)
  have l_5 : ¬ (v_isKept = false) → 1 ≤ v_imageRows.toInt ∧ v_imageRows.toInt ≤ 4 ∧ 1 ≤ v_imageColumns.toInt ∧ v_imageColumns.toInt ≤ 8 ∧ lv9 v_imageRows v_imageColumns wv_shapeRows wv_shapeColumns wv_row wv_column (5 : Int32) := fun hk => (by
    obtain ⟨j_0, j_1, j_2, j_3, j_4⟩ := a_0_13 hk
    exact ⟨j_0, j_1, j_2, j_3, lv9_fr j_4 q_14 q_15 q_12 q_13 (by omega) (by omega) (by omega) (by omega) (i_fl j_0 j_1 j_2 j_3).2.2⟩)
  exact ⟨q_0, q_1, q_2, q_3, q_4, q_5, q_6, q_7, q_8, q_9, q_10, q_11, q_16, l_5⟩
set_option maxHeartbeats 4000000 in
set_option maxRecDepth 20000 in
theorem st9_limit {x1 : Int32} {v_keptMany : Int32} {v_done : Int32} {v_limit : List Int32} {v_changeWas : List Int32} {v_changeIs : List Int32} (g_0 : gm_ch v_keptMany v_done v_limit v_changeWas v_changeIs) : wp (fX9_limit 700 x1 v_keptMany v_done v_limit v_changeWas v_changeIs) (cu6 (fun (r : Int32) (wv_keptMany : Int32) (wv_done : Int32) (wv_limit : List Int32) (wv_changeWas : List Int32) (wv_changeIs : List Int32) => gm_ch wv_keptMany wv_done wv_limit wv_changeWas wv_changeIs)) := by
  obtain ⟨a_0_0, a_0_1, a_0_2, a_0_3, a_0_4, a_0_5, a_0_6, a_0_7⟩ := id g_0
  refine wp_cu6 (sf_X9_limit (Nat.le_refl 700) a_0_0 a_0_1 a_0_2 a_0_3 a_0_4 a_0_5 a_0_6 a_0_7) (fun r wv_keptMany wv_done wv_limit wv_changeWas wv_changeIs ⟨q_0, q_1, q_2, q_3, q_4, q_5, q_6, q_7⟩ => ?_)
  exact ⟨q_0, q_1, q_2, q_3, q_4, q_5, q_6, q_7⟩
set_option maxHeartbeats 4000000 in
set_option maxRecDepth 20000 in
theorem st9_feed {x1 : Int32} {v_tapeMany : Int32} {v_tape : List Int32} {v_textMany : Int32} {v_text : List Int32} {v_names : List Int32} {v_bends : List Int32} {v_high : List Int32} {v_to : List Int32} {v_pileSize : List Int32} (g_0 : gm_tx v_tapeMany v_textMany v_tape v_text v_names v_bends v_high v_to v_pileSize) : wp (fX9_feed 700 x1 v_tapeMany v_tape) (cu3 (fun (r : Int32) (wv_tapeMany : Int32) (wv_tape : List Int32) => gm_tx wv_tapeMany v_textMany wv_tape v_text v_names v_bends v_high v_to v_pileSize)) := by
  obtain ⟨a_0_0, a_0_1, a_0_2, a_0_3, a_0_4, a_0_5, a_0_6, a_0_7, a_0_8, a_0_9, a_0_10⟩ := id g_0
  refine wp_cu3 (sf_X9_feed (Nat.le_refl 700) a_0_0 a_0_1 a_0_4) (fun r wv_tapeMany wv_tape ⟨q_0, q_1, q_2⟩ => ?_)
  exact ⟨q_0, q_1, a_0_2, a_0_3, q_2, a_0_5, a_0_6, a_0_7, a_0_8, a_0_9, a_0_10⟩
set_option maxHeartbeats 4000000 in
set_option maxRecDepth 20000 in
theorem st9_law {v_tapeMany : Int32} {v_textMany : Int32} {v_base : Int32} {v_at : Int32} {v_ends : Int32} {v_fault : Int32} {v_opened : Int32} {v_tape : List Int32} {v_text : List Int32} {v_names : List Int32} {v_bends : List Int32} {v_high : List Int32} {v_to : List Int32} {v_pileSize : List Int32} (g_0 : gm_tx v_tapeMany v_textMany v_tape v_text v_names v_bends v_high v_to v_pileSize) : wp (fX9_law 700 v_tapeMany v_textMany v_base v_at v_ends v_fault v_opened v_tape v_text v_names) (cu9 (fun (r : Int32) (wv_tapeMany : Int32) (wv_textMany : Int32) (wv_base : Int32) (wv_at : Int32) (wv_ends : Int32) (wv_fault : Int32) (wv_opened : Int32) (wv_text : List Int32) => gm_tx wv_tapeMany wv_textMany v_tape wv_text v_names v_bends v_high v_to v_pileSize)) := by
  obtain ⟨a_0_0, a_0_1, a_0_2, a_0_3, a_0_4, a_0_5, a_0_6, a_0_7, a_0_8, a_0_9, a_0_10⟩ := id g_0
  refine wp_cu9 (sf_X9_law (Nat.le_refl 700) a_0_0 a_0_1 a_0_2 a_0_3 a_0_4 a_0_5 a_0_6) (fun r wv_tapeMany wv_textMany wv_base wv_at wv_ends wv_fault wv_opened wv_text ⟨q_0, q_1, q_2, q_3, q_4⟩ => ?_)
  exact ⟨q_0, q_1, q_2, q_3, a_0_4, q_4, a_0_6, a_0_7, a_0_8, a_0_9, a_0_10⟩
set_option maxHeartbeats 4000000 in
set_option maxRecDepth 20000 in
theorem st9_fold {x1 : Int32} {x2 : Int32} {v_rowsOf : Int32} {v_columnsOf : Int32} {v_folded : Int32} {v_wronged : Int32} {v_textMany : Int32} {v_base : Int32} {v_at : Int32} {v_ends : Int32} {v_fault : Int32} {v_opened : Int32} {v_bentMany : Int32} {v_bentWrong : Int32} {v_moreWorn : Int32} {v_limit : List Int32} {v_shapeRows : List Int32} {v_shapeColumns : List Int32} {v_row : List Int32} {v_column : List Int32} {v_below : List Int32} {v_face : List Int32} {v_worn : List Int32} {v_lastBend : List Int32} {v_tape : List Int32} {v_text : List Int32} {v_names : List Int32} {v_bends : List Int32} {v_high : List Int32} {v_to : List Int32} {v_pileSize : List Int32} {v_keptMany : Int32} {v_done : Int32} {v_changeWas : List Int32} {v_changeIs : List Int32} {v_isKept : Bool} {v_imageRows : Int32} {v_imageColumns : Int32} {v_tapeMany : Int32} (g_0 : gm_ch v_keptMany v_done v_limit v_changeWas v_changeIs) (g_1 : gm_sh v_rowsOf v_columnsOf v_isKept v_imageRows v_imageColumns v_shapeRows v_shapeColumns v_row v_column v_below v_face v_worn v_lastBend) (g_2 : gm_tx v_tapeMany v_textMany v_tape v_text v_names v_bends v_high v_to v_pileSize) : wp (fX9_fold 700 x1 x2 v_rowsOf v_columnsOf v_folded v_wronged v_textMany v_base v_at v_ends v_fault v_opened v_bentMany v_bentWrong v_moreWorn v_limit v_shapeRows v_shapeColumns v_row v_column v_below v_face v_worn v_lastBend v_tape v_text v_names v_bends v_high v_to v_pileSize) (cu24 (fun (r : Int32) (wv_folded : Int32) (wv_wronged : Int32) (wv_base : Int32) (wv_at : Int32) (wv_ends : Int32) (wv_fault : Int32) (wv_opened : Int32) (wv_bentMany : Int32) (wv_bentWrong : Int32) (wv_moreWorn : Int32) (wv_shapeRows : List Int32) (wv_shapeColumns : List Int32) (wv_row : List Int32) (wv_column : List Int32) (wv_below : List Int32) (wv_face : List Int32) (wv_worn : List Int32) (wv_lastBend : List Int32) (wv_names : List Int32) (wv_bends : List Int32) (wv_high : List Int32) (wv_to : List Int32) (wv_pileSize : List Int32) => gm_sh v_rowsOf v_columnsOf v_isKept v_imageRows v_imageColumns wv_shapeRows wv_shapeColumns wv_row wv_column wv_below wv_face wv_worn wv_lastBend ∧ gm_tx v_tapeMany v_textMany v_tape v_text wv_names wv_bends wv_high wv_to wv_pileSize)) := by
  obtain ⟨a_0_0, a_0_1, a_0_2, a_0_3, a_0_4, a_0_5, a_0_6, a_0_7⟩ := id g_0
  obtain ⟨a_1_0, a_1_1, a_1_2, a_1_3, a_1_4, a_1_5, a_1_6, a_1_7, a_1_8, a_1_9, a_1_10, a_1_11, a_1_12, a_1_13⟩ := id g_1
  obtain ⟨a_2_0, a_2_1, a_2_2, a_2_3, a_2_4, a_2_5, a_2_6, a_2_7, a_2_8, a_2_9, a_2_10⟩ := id g_2
  have n0 : (0 : Int32).toInt = 0 := by decide
  have n1 : (1 : Int32).toInt = 1 := by decide
  have n5 : (5 : Int32).toInt = 5 := by decide
  refine wp_cu24 (sf_X9_fold (u_row := v_row) (u_col := v_column) (u_sR := v_shapeRows) (u_sC := v_shapeColumns) (A := 0) (B9 := 32) (a9 := 0) (b9 := 1) (Nat.le_refl 700) a_1_0 a_1_1 a_1_2 a_1_3 a_2_2 a_2_3 a_0_4 a_1_4 a_1_5 a_1_6 a_1_7 a_1_8 a_1_9 a_1_10 a_1_11 a_2_4 a_2_5 a_2_6 a_2_7 a_2_8 a_2_9 a_2_10 (fr_refl _ _ _) (fr_refl _ _ _) (fr_refl _ _ _) (fr_refl _ _ _) (by omega) (by omega) (by omega) (by omega) a_1_12) (fun r wv_folded wv_wronged wv_base wv_at wv_ends wv_fault wv_opened wv_bentMany wv_bentWrong wv_moreWorn wv_shapeRows wv_shapeColumns wv_row wv_column wv_below wv_face wv_worn wv_lastBend wv_names wv_bends wv_high wv_to wv_pileSize ⟨q_0, q_1, q_2, q_3, q_4, q_5, q_6, q_7, q_8, q_9, q_10, q_11, q_12, q_13, q_14, q_15, q_16, q_17⟩ => ?_)
  have l_5 : ¬ (v_isKept = false) → 1 ≤ v_imageRows.toInt ∧ v_imageRows.toInt ≤ 4 ∧ 1 ≤ v_imageColumns.toInt ∧ v_imageColumns.toInt ≤ 8 ∧ lv9 v_imageRows v_imageColumns wv_shapeRows wv_shapeColumns wv_row wv_column (5 : Int32) := fun hk => (by
    obtain ⟨j_0, j_1, j_2, j_3, j_4⟩ := a_1_13 hk
    exact ⟨j_0, j_1, j_2, j_3, lv9_fr j_4 q_15 q_16 q_13 q_14 (by omega) (by omega) (by omega) (by omega) (i_fl j_0 j_1 j_2 j_3).2.2⟩)
  exact ⟨⟨a_1_0, a_1_1, a_1_2, a_1_3, q_0, q_1, q_2, q_3, q_4, q_5, q_6, q_7, q_17, l_5⟩, ⟨a_2_0, a_2_1, a_2_2, a_2_3, a_2_4, a_2_5, q_8, q_9, q_10, q_11, q_12⟩⟩
set_option maxHeartbeats 4000000 in
set_option maxRecDepth 20000 in
theorem st9_flat {v_rowsOf : Int32} {v_columnsOf : Int32} {v_shapeRows : List Int32} {v_shapeColumns : List Int32} {v_row : List Int32} {v_column : List Int32} {v_below : List Int32} {v_face : List Int32} {v_isKept : Bool} {v_imageRows : Int32} {v_imageColumns : Int32} {v_worn : List Int32} {v_lastBend : List Int32} (g_0 : gm_sh v_rowsOf v_columnsOf v_isKept v_imageRows v_imageColumns v_shapeRows v_shapeColumns v_row v_column v_below v_face v_worn v_lastBend) : wp (fX9_flat 700 v_rowsOf v_columnsOf v_shapeRows v_shapeColumns v_row v_column v_below v_face) (cu7 (fun (r : Int32) (wv_shapeRows : List Int32) (wv_shapeColumns : List Int32) (wv_row : List Int32) (wv_column : List Int32) (wv_below : List Int32) (wv_face : List Int32) => gm_sh v_rowsOf v_columnsOf v_isKept v_imageRows v_imageColumns wv_shapeRows wv_shapeColumns wv_row wv_column wv_below wv_face v_worn v_lastBend)) := by
  obtain ⟨a_0_0, a_0_1, a_0_2, a_0_3, a_0_4, a_0_5, a_0_6, a_0_7, a_0_8, a_0_9, a_0_10, a_0_11, a_0_12, a_0_13⟩ := id g_0
  have n0 : (0 : Int32).toInt = 0 := by decide
  have n1 : (1 : Int32).toInt = 1 := by decide
  have n5 : (5 : Int32).toInt = 5 := by decide
  refine wp_cu7 (sf_X9_flat (u_row := v_row) (u_col := v_column) (u_sR := v_shapeRows) (u_sC := v_shapeColumns) (A := 0) (B9 := 32) (a9 := 0) (b9 := 1) (Nat.le_refl 700) a_0_0 a_0_1 a_0_2 a_0_3 a_0_4 a_0_5 a_0_6 a_0_7 a_0_8 a_0_9 (fr_refl _ _ _) (fr_refl _ _ _) (fr_refl _ _ _) (fr_refl _ _ _) (by omega) (by omega) (by omega) (by omega) a_0_12) (fun r wv_shapeRows wv_shapeColumns wv_row wv_column wv_below wv_face ⟨q_0, q_1, q_2, q_3, q_4, q_5, q_6, q_7, q_8, q_9, q_10⟩ => ?_)
  have l_5 : ¬ (v_isKept = false) → 1 ≤ v_imageRows.toInt ∧ v_imageRows.toInt ≤ 4 ∧ 1 ≤ v_imageColumns.toInt ∧ v_imageColumns.toInt ≤ 8 ∧ lv9 v_imageRows v_imageColumns wv_shapeRows wv_shapeColumns wv_row wv_column (5 : Int32) := fun hk => (by
    obtain ⟨j_0, j_1, j_2, j_3, j_4⟩ := a_0_13 hk
    exact ⟨j_0, j_1, j_2, j_3, lv9_fr j_4 q_8 q_9 q_6 q_7 (by omega) (by omega) (by omega) (by omega) (i_fl j_0 j_1 j_2 j_3).2.2⟩)
  exact ⟨a_0_0, a_0_1, a_0_2, a_0_3, q_0, q_1, q_2, q_3, q_4, q_5, a_0_10, a_0_11, q_10, l_5⟩
set_option maxHeartbeats 4000000 in
set_option maxRecDepth 20000 in
theorem st9_crease {x1 : Int32} {x2 : Int32} {v_rowsOf : Int32} {v_columnsOf : Int32} {v_limit : List Int32} {v_worn : List Int32} {v_lastBend : List Int32} {v_keptMany : Int32} {v_done : Int32} {v_changeWas : List Int32} {v_changeIs : List Int32} {v_isKept : Bool} {v_imageRows : Int32} {v_imageColumns : Int32} {v_shapeRows : List Int32} {v_shapeColumns : List Int32} {v_row : List Int32} {v_column : List Int32} {v_below : List Int32} {v_face : List Int32} (g_0 : gm_ch v_keptMany v_done v_limit v_changeWas v_changeIs) (g_1 : gm_sh v_rowsOf v_columnsOf v_isKept v_imageRows v_imageColumns v_shapeRows v_shapeColumns v_row v_column v_below v_face v_worn v_lastBend) : wp (fX9_crease 700 x1 x2 v_rowsOf v_columnsOf v_limit v_worn v_lastBend) (fun (r : Int32) => True) := by
  obtain ⟨a_0_0, a_0_1, a_0_2, a_0_3, a_0_4, a_0_5, a_0_6, a_0_7⟩ := id g_0
  obtain ⟨a_1_0, a_1_1, a_1_2, a_1_3, a_1_4, a_1_5, a_1_6, a_1_7, a_1_8, a_1_9, a_1_10, a_1_11, a_1_12, a_1_13⟩ := id g_1
  refine wp_cu1 (sf_X9_crease (Nat.le_refl 700) a_1_0 a_1_1 a_1_2 a_1_3 a_0_4 a_1_10 a_1_11) (fun r _ => ?_)
  exact trivial
set_option maxHeartbeats 4000000 in
set_option maxRecDepth 20000 in
theorem st9_shape {x1 : Int32} {v_rowsOf : Int32} {v_columnsOf : Int32} {v_shapeRows : List Int32} {v_shapeColumns : List Int32} {v_below : List Int32} {v_isKept : Bool} {v_imageRows : Int32} {v_imageColumns : Int32} {v_row : List Int32} {v_column : List Int32} {v_face : List Int32} {v_worn : List Int32} {v_lastBend : List Int32} (g_0 : gm_sh v_rowsOf v_columnsOf v_isKept v_imageRows v_imageColumns v_shapeRows v_shapeColumns v_row v_column v_below v_face v_worn v_lastBend) : wp (fX9_shape 700 x1 v_rowsOf v_columnsOf v_shapeRows v_shapeColumns v_below) (fun (r : Int32) => True) := by
  obtain ⟨a_0_0, a_0_1, a_0_2, a_0_3, a_0_4, a_0_5, a_0_6, a_0_7, a_0_8, a_0_9, a_0_10, a_0_11, a_0_12, a_0_13⟩ := id g_0
  refine wp_cu1 (sf_X9_shape (Nat.le_refl 700) a_0_0 a_0_1 a_0_2 a_0_3 a_0_4 a_0_5 a_0_8) (fun r _ => ?_)
  exact trivial
set_option maxHeartbeats 4000000 in
set_option maxRecDepth 20000 in
theorem st9_where {x1 : Int32} {x2 : Int32} {v_rowsOf : Int32} {v_columnsOf : Int32} {v_row : List Int32} {v_column : List Int32} {v_below : List Int32} {v_face : List Int32} {v_isKept : Bool} {v_imageRows : Int32} {v_imageColumns : Int32} {v_shapeRows : List Int32} {v_shapeColumns : List Int32} {v_worn : List Int32} {v_lastBend : List Int32} (g_0 : gm_sh v_rowsOf v_columnsOf v_isKept v_imageRows v_imageColumns v_shapeRows v_shapeColumns v_row v_column v_below v_face v_worn v_lastBend) : wp (fX9_where 700 x1 x2 v_rowsOf v_columnsOf v_row v_column v_below v_face) (fun (r : Int32) => True) := by
  obtain ⟨a_0_0, a_0_1, a_0_2, a_0_3, a_0_4, a_0_5, a_0_6, a_0_7, a_0_8, a_0_9, a_0_10, a_0_11, a_0_12, a_0_13⟩ := id g_0
  refine wp_cu1 (sf_X9_where (Nat.le_refl 700) a_0_0 a_0_1 a_0_2 a_0_3 a_0_6 a_0_7 a_0_8 a_0_9) (fun r _ => ?_)
  exact trivial
set_option maxHeartbeats 4000000 in
set_option maxRecDepth 20000 in
theorem st9_pile {x1 : Int32} {x2 : Int32} {v_rowsOf : Int32} {v_columnsOf : Int32} {v_shapeRows : List Int32} {v_shapeColumns : List Int32} {v_row : List Int32} {v_column : List Int32} {v_below : List Int32} {v_isKept : Bool} {v_imageRows : Int32} {v_imageColumns : Int32} {v_face : List Int32} {v_worn : List Int32} {v_lastBend : List Int32} (g_0 : gm_sh v_rowsOf v_columnsOf v_isKept v_imageRows v_imageColumns v_shapeRows v_shapeColumns v_row v_column v_below v_face v_worn v_lastBend) : wp (fX9_pile 700 x1 x2 v_rowsOf v_columnsOf v_shapeRows v_shapeColumns v_row v_column v_below) (fun (r : Int32) => True) := by
  obtain ⟨a_0_0, a_0_1, a_0_2, a_0_3, a_0_4, a_0_5, a_0_6, a_0_7, a_0_8, a_0_9, a_0_10, a_0_11, a_0_12, a_0_13⟩ := id g_0
  refine wp_cu1 (sf_X9_pile (Nat.le_refl 700) a_0_0 a_0_1 a_0_2 a_0_3 a_0_4 a_0_5 a_0_6 a_0_7 a_0_8) (fun r _ => ?_)
  exact trivial
set_option maxHeartbeats 4000000 in
set_option maxRecDepth 20000 in
theorem st9_led {x1 : Int32} {v_rowsOf : Int32} {v_columnsOf : Int32} {v_folded : Int32} {v_wronged : Int32} {v_limit : List Int32} {v_worn : List Int32} {v_keptMany : Int32} {v_done : Int32} {v_changeWas : List Int32} {v_changeIs : List Int32} {v_isKept : Bool} {v_imageRows : Int32} {v_imageColumns : Int32} {v_shapeRows : List Int32} {v_shapeColumns : List Int32} {v_row : List Int32} {v_column : List Int32} {v_below : List Int32} {v_face : List Int32} {v_lastBend : List Int32} (g_0 : gm_ch v_keptMany v_done v_limit v_changeWas v_changeIs) (g_1 : gm_sh v_rowsOf v_columnsOf v_isKept v_imageRows v_imageColumns v_shapeRows v_shapeColumns v_row v_column v_below v_face v_worn v_lastBend) : wp (fX9_led 700 x1 v_rowsOf v_columnsOf v_folded v_wronged v_limit v_worn) (fun (r : Int32) => True) := by
  obtain ⟨a_0_0, a_0_1, a_0_2, a_0_3, a_0_4, a_0_5, a_0_6, a_0_7⟩ := id g_0
  obtain ⟨a_1_0, a_1_1, a_1_2, a_1_3, a_1_4, a_1_5, a_1_6, a_1_7, a_1_8, a_1_9, a_1_10, a_1_11, a_1_12, a_1_13⟩ := id g_1
  refine wp_cu1 (sf_X9_led (Nat.le_refl 700) a_1_0 a_1_1 a_1_2 a_1_3 a_0_4 a_1_10) (fun r _ => ?_)
  exact trivial
set_option maxHeartbeats 4000000 in
set_option maxRecDepth 20000 in
theorem st9_plan {x1 : Int32} {x2 : Int32} {v_planned : Int32} {v_planLine : List Int32} {v_planWay : List Int32} (g_0 : gm_pl v_planned v_planLine v_planWay) : wp (fX9_plan 700 x1 x2 v_planned v_planLine v_planWay) (cu4 (fun (r : Int32) (wv_planned : Int32) (wv_planLine : List Int32) (wv_planWay : List Int32) => gm_pl wv_planned wv_planLine wv_planWay)) := by
  obtain ⟨a_0_0, a_0_1, a_0_2, a_0_3⟩ := id g_0
  refine wp_cu4 (sf_X9_plan (Nat.le_refl 700) a_0_0 a_0_1 a_0_2 a_0_3) (fun r wv_planned wv_planLine wv_planWay ⟨q_0, q_1, q_2, q_3⟩ => ?_)
  exact ⟨q_0, q_1, q_2, q_3⟩
set_option maxHeartbeats 4000000 in
set_option maxRecDepth 20000 in
theorem st9_plans {x1 : Int32} {x2 : Int32} {x3 : Int32} {v_planned : Int32} {v_planLine : List Int32} {v_planWay : List Int32} {v_shelf : List Int32} {v_many : List Int32} {v_items : List Int64} {v_carried : List Int64} (g_0 : gm_pl v_planned v_planLine v_planWay) (g_1 : gm_sf v_shelf v_many v_items v_carried) : wp (fX9_plans 700 x1 x2 x3 v_planned v_planLine v_planWay v_shelf v_many v_items) (cu4 (fun (r : Int32) (wv_planned : Int32) (wv_planLine : List Int32) (wv_planWay : List Int32) => gm_pl wv_planned wv_planLine wv_planWay)) := by
  obtain ⟨a_0_0, a_0_1, a_0_2, a_0_3⟩ := id g_0
  obtain ⟨a_1_0, a_1_1, a_1_2, a_1_3, a_1_4⟩ := id g_1
  refine wp_cu4 (sf_X9_plans (Nat.le_refl 700) a_0_0 a_0_1 a_0_2 a_0_3 a_1_0 a_1_1 a_1_2 a_1_4) (fun r wv_planned wv_planLine wv_planWay ⟨q_0, q_1, q_2, q_3⟩ => ?_)
  exact ⟨q_0, q_1, q_2, q_3⟩
set_option maxHeartbeats 4000000 in
set_option maxRecDepth 20000 in
theorem st9_cost {x1 : Int32} {v_rowsOf : Int32} {v_columnsOf : Int32} {v_textMany : Int32} {v_base : Int32} {v_at : Int32} {v_ends : Int32} {v_fault : Int32} {v_opened : Int32} {v_bentMany : Int32} {v_bentWrong : Int32} {v_moreWorn : Int32} {v_planned : Int32} {v_allWrong : Int32} {v_allWorn : Int32} {v_z : Int32} {v_limit : List Int32} {v_shapeRows : List Int32} {v_shapeColumns : List Int32} {v_row : List Int32} {v_column : List Int32} {v_below : List Int32} {v_face : List Int32} {v_worn : List Int32} {v_lastBend : List Int32} {v_tape : List Int32} {v_text : List Int32} {v_names : List Int32} {v_bends : List Int32} {v_high : List Int32} {v_to : List Int32} {v_pileSize : List Int32} {v_planLine : List Int32} {v_planWay : List Int32} {v_keptMany : Int32} {v_done : Int32} {v_changeWas : List Int32} {v_changeIs : List Int32} {v_isKept : Bool} {v_imageRows : Int32} {v_imageColumns : Int32} {v_tapeMany : Int32} (g_0 : gm_ch v_keptMany v_done v_limit v_changeWas v_changeIs) (g_1 : gm_sh v_rowsOf v_columnsOf v_isKept v_imageRows v_imageColumns v_shapeRows v_shapeColumns v_row v_column v_below v_face v_worn v_lastBend) (g_2 : gm_tx v_tapeMany v_textMany v_tape v_text v_names v_bends v_high v_to v_pileSize) (g_3 : gm_pl v_planned v_planLine v_planWay) : wp (fX9_cost 700 x1 v_rowsOf v_columnsOf v_textMany v_base v_at v_ends v_fault v_opened v_bentMany v_bentWrong v_moreWorn v_planned v_allWrong v_allWorn v_z v_limit v_shapeRows v_shapeColumns v_row v_column v_below v_face v_worn v_lastBend v_tape v_text v_names v_bends v_high v_to v_pileSize v_planLine v_planWay) (cu25 (fun (r : Int32) (wv_base : Int32) (wv_at : Int32) (wv_ends : Int32) (wv_fault : Int32) (wv_opened : Int32) (wv_bentMany : Int32) (wv_bentWrong : Int32) (wv_moreWorn : Int32) (wv_allWrong : Int32) (wv_allWorn : Int32) (wv_z : Int32) (wv_shapeRows : List Int32) (wv_shapeColumns : List Int32) (wv_row : List Int32) (wv_column : List Int32) (wv_below : List Int32) (wv_face : List Int32) (wv_worn : List Int32) (wv_lastBend : List Int32) (wv_names : List Int32) (wv_bends : List Int32) (wv_high : List Int32) (wv_to : List Int32) (wv_pileSize : List Int32) => gm_sh v_rowsOf v_columnsOf v_isKept v_imageRows v_imageColumns wv_shapeRows wv_shapeColumns wv_row wv_column wv_below wv_face wv_worn wv_lastBend ∧ gm_tx v_tapeMany v_textMany v_tape v_text wv_names wv_bends wv_high wv_to wv_pileSize)) := by
  obtain ⟨a_0_0, a_0_1, a_0_2, a_0_3, a_0_4, a_0_5, a_0_6, a_0_7⟩ := id g_0
  obtain ⟨a_1_0, a_1_1, a_1_2, a_1_3, a_1_4, a_1_5, a_1_6, a_1_7, a_1_8, a_1_9, a_1_10, a_1_11, a_1_12, a_1_13⟩ := id g_1
  obtain ⟨a_2_0, a_2_1, a_2_2, a_2_3, a_2_4, a_2_5, a_2_6, a_2_7, a_2_8, a_2_9, a_2_10⟩ := id g_2
  obtain ⟨a_3_0, a_3_1, a_3_2, a_3_3⟩ := id g_3
  have n0 : (0 : Int32).toInt = 0 := by decide
  have n1 : (1 : Int32).toInt = 1 := by decide
  have n5 : (5 : Int32).toInt = 5 := by decide
  refine wp_cu25 (sf_X9_cost (u_row := v_row) (u_col := v_column) (u_sR := v_shapeRows) (u_sC := v_shapeColumns) (A := 32) (B9 := 160) (a9 := 1) (b9 := 5) (Nat.le_refl 700) a_1_0 a_1_1 a_1_2 a_1_3 a_2_2 a_2_3 a_3_0 a_3_1 a_0_4 a_1_4 a_1_5 a_1_6 a_1_7 a_1_8 a_1_9 a_1_10 a_1_11 a_2_4 a_2_5 a_2_6 a_2_7 a_2_8 a_2_9 a_2_10 a_3_2 a_3_3 (fr_refl _ _ _) (fr_refl _ _ _) (fr_refl _ _ _) (fr_refl _ _ _) (by omega) (by omega) (by omega) (by omega)) (fun r wv_base wv_at wv_ends wv_fault wv_opened wv_bentMany wv_bentWrong wv_moreWorn wv_allWrong wv_allWorn wv_z wv_shapeRows wv_shapeColumns wv_row wv_column wv_below wv_face wv_worn wv_lastBend wv_names wv_bends wv_high wv_to wv_pileSize ⟨q_0, q_1, q_2, q_3, q_4, q_5, q_6, q_7, q_8, q_9, q_10, q_11, q_12, q_13, q_14, q_15, q_16⟩ => ?_)
  have l_0 : lv9 v_rowsOf v_columnsOf wv_shapeRows wv_shapeColumns wv_row wv_column (0 : Int32) := lv9_fr a_1_12 q_15 q_16 q_13 q_14 (by omega) (by omega) (by omega) (by omega) (i_fl a_1_0 a_1_1 a_1_2 a_1_3).2.2
  have l_5 : ¬ (v_isKept = false) → 1 ≤ v_imageRows.toInt ∧ v_imageRows.toInt ≤ 4 ∧ 1 ≤ v_imageColumns.toInt ∧ v_imageColumns.toInt ≤ 8 ∧ lv9 v_imageRows v_imageColumns wv_shapeRows wv_shapeColumns wv_row wv_column (5 : Int32) := fun hk => (by
    obtain ⟨j_0, j_1, j_2, j_3, j_4⟩ := a_1_13 hk
    exact ⟨j_0, j_1, j_2, j_3, lv9_fr j_4 q_15 q_16 q_13 q_14 (by omega) (by omega) (by omega) (by omega) (i_fl j_0 j_1 j_2 j_3).2.2⟩)
  exact ⟨⟨a_1_0, a_1_1, a_1_2, a_1_3, q_0, q_1, q_2, q_3, q_4, q_5, q_6, q_7, l_0, l_5⟩, ⟨a_2_0, a_2_1, a_2_2, a_2_3, a_2_4, a_2_5, q_8, q_9, q_10, q_11, q_12⟩⟩
set_option maxHeartbeats 4000000 in
set_option maxRecDepth 20000 in
theorem st9_lies {x1 : Int32} {x2 : Int32} {v_rowsOf : Int32} {v_columnsOf : Int32} {v_textMany : Int32} {v_base : Int32} {v_at : Int32} {v_ends : Int32} {v_fault : Int32} {v_opened : Int32} {v_bentMany : Int32} {v_bentWrong : Int32} {v_moreWorn : Int32} {v_planned : Int32} {v_allWrong : Int32} {v_allWorn : Int32} {v_z : Int32} {v_limit : List Int32} {v_shapeRows : List Int32} {v_shapeColumns : List Int32} {v_row : List Int32} {v_column : List Int32} {v_below : List Int32} {v_face : List Int32} {v_worn : List Int32} {v_lastBend : List Int32} {v_tape : List Int32} {v_text : List Int32} {v_names : List Int32} {v_bends : List Int32} {v_high : List Int32} {v_to : List Int32} {v_pileSize : List Int32} {v_planLine : List Int32} {v_planWay : List Int32} {v_keptMany : Int32} {v_done : Int32} {v_changeWas : List Int32} {v_changeIs : List Int32} {v_isKept : Bool} {v_imageRows : Int32} {v_imageColumns : Int32} {v_tapeMany : Int32} (g_0 : gm_ch v_keptMany v_done v_limit v_changeWas v_changeIs) (g_1 : gm_sh v_rowsOf v_columnsOf v_isKept v_imageRows v_imageColumns v_shapeRows v_shapeColumns v_row v_column v_below v_face v_worn v_lastBend) (g_2 : gm_tx v_tapeMany v_textMany v_tape v_text v_names v_bends v_high v_to v_pileSize) (g_3 : gm_pl v_planned v_planLine v_planWay) : wp (fX9_lies 700 x1 x2 v_rowsOf v_columnsOf v_textMany v_base v_at v_ends v_fault v_opened v_bentMany v_bentWrong v_moreWorn v_planned v_allWrong v_allWorn v_z v_limit v_shapeRows v_shapeColumns v_row v_column v_below v_face v_worn v_lastBend v_tape v_text v_names v_bends v_high v_to v_pileSize v_planLine v_planWay) (cu25 (fun (r : Int32) (wv_base : Int32) (wv_at : Int32) (wv_ends : Int32) (wv_fault : Int32) (wv_opened : Int32) (wv_bentMany : Int32) (wv_bentWrong : Int32) (wv_moreWorn : Int32) (wv_allWrong : Int32) (wv_allWorn : Int32) (wv_z : Int32) (wv_shapeRows : List Int32) (wv_shapeColumns : List Int32) (wv_row : List Int32) (wv_column : List Int32) (wv_below : List Int32) (wv_face : List Int32) (wv_worn : List Int32) (wv_lastBend : List Int32) (wv_names : List Int32) (wv_bends : List Int32) (wv_high : List Int32) (wv_to : List Int32) (wv_pileSize : List Int32) => gm_sh v_rowsOf v_columnsOf v_isKept v_imageRows v_imageColumns wv_shapeRows wv_shapeColumns wv_row wv_column wv_below wv_face wv_worn wv_lastBend ∧ gm_tx v_tapeMany v_textMany v_tape v_text wv_names wv_bends wv_high wv_to wv_pileSize)) := by
  obtain ⟨a_0_0, a_0_1, a_0_2, a_0_3, a_0_4, a_0_5, a_0_6, a_0_7⟩ := id g_0
  obtain ⟨a_1_0, a_1_1, a_1_2, a_1_3, a_1_4, a_1_5, a_1_6, a_1_7, a_1_8, a_1_9, a_1_10, a_1_11, a_1_12, a_1_13⟩ := id g_1
  obtain ⟨a_2_0, a_2_1, a_2_2, a_2_3, a_2_4, a_2_5, a_2_6, a_2_7, a_2_8, a_2_9, a_2_10⟩ := id g_2
  obtain ⟨a_3_0, a_3_1, a_3_2, a_3_3⟩ := id g_3
  have n0 : (0 : Int32).toInt = 0 := by decide
  have n1 : (1 : Int32).toInt = 1 := by decide
  have n5 : (5 : Int32).toInt = 5 := by decide
  refine wp_cu25 (sf_X9_lies (u_row := v_row) (u_col := v_column) (u_sR := v_shapeRows) (u_sC := v_shapeColumns) (A := 32) (B9 := 160) (a9 := 1) (b9 := 5) (Nat.le_refl 700) a_1_0 a_1_1 a_1_2 a_1_3 a_2_2 a_2_3 a_3_0 a_3_1 a_0_4 a_1_4 a_1_5 a_1_6 a_1_7 a_1_8 a_1_9 a_1_10 a_1_11 a_2_4 a_2_5 a_2_6 a_2_7 a_2_8 a_2_9 a_2_10 a_3_2 a_3_3 (fr_refl _ _ _) (fr_refl _ _ _) (fr_refl _ _ _) (fr_refl _ _ _) (by omega) (by omega) (by omega) (by omega)) (fun r wv_base wv_at wv_ends wv_fault wv_opened wv_bentMany wv_bentWrong wv_moreWorn wv_allWrong wv_allWorn wv_z wv_shapeRows wv_shapeColumns wv_row wv_column wv_below wv_face wv_worn wv_lastBend wv_names wv_bends wv_high wv_to wv_pileSize ⟨q_0, q_1, q_2, q_3, q_4, q_5, q_6, q_7, q_8, q_9, q_10, q_11, q_12, q_13, q_14, q_15, q_16⟩ => ?_)
  have l_0 : lv9 v_rowsOf v_columnsOf wv_shapeRows wv_shapeColumns wv_row wv_column (0 : Int32) := lv9_fr a_1_12 q_15 q_16 q_13 q_14 (by omega) (by omega) (by omega) (by omega) (i_fl a_1_0 a_1_1 a_1_2 a_1_3).2.2
  have l_5 : ¬ (v_isKept = false) → 1 ≤ v_imageRows.toInt ∧ v_imageRows.toInt ≤ 4 ∧ 1 ≤ v_imageColumns.toInt ∧ v_imageColumns.toInt ≤ 8 ∧ lv9 v_imageRows v_imageColumns wv_shapeRows wv_shapeColumns wv_row wv_column (5 : Int32) := fun hk => (by
    obtain ⟨j_0, j_1, j_2, j_3, j_4⟩ := a_1_13 hk
    exact ⟨j_0, j_1, j_2, j_3, lv9_fr j_4 q_15 q_16 q_13 q_14 (by omega) (by omega) (by omega) (by omega) (i_fl j_0 j_1 j_2 j_3).2.2⟩)
  exact ⟨⟨a_1_0, a_1_1, a_1_2, a_1_3, q_0, q_1, q_2, q_3, q_4, q_5, q_6, q_7, l_0, l_5⟩, ⟨a_2_0, a_2_1, a_2_2, a_2_3, a_2_4, a_2_5, q_8, q_9, q_10, q_11, q_12⟩⟩
set_option maxHeartbeats 4000000 in
set_option maxRecDepth 20000 in
theorem st9_top {x1 : Int32} {x2 : Int32} {v_rowsOf : Int32} {v_columnsOf : Int32} {v_textMany : Int32} {v_base : Int32} {v_at : Int32} {v_ends : Int32} {v_fault : Int32} {v_opened : Int32} {v_bentMany : Int32} {v_bentWrong : Int32} {v_moreWorn : Int32} {v_planned : Int32} {v_allWrong : Int32} {v_allWorn : Int32} {v_z : Int32} {v_limit : List Int32} {v_shapeRows : List Int32} {v_shapeColumns : List Int32} {v_row : List Int32} {v_column : List Int32} {v_below : List Int32} {v_face : List Int32} {v_worn : List Int32} {v_lastBend : List Int32} {v_tape : List Int32} {v_text : List Int32} {v_names : List Int32} {v_bends : List Int32} {v_high : List Int32} {v_to : List Int32} {v_pileSize : List Int32} {v_planLine : List Int32} {v_planWay : List Int32} {v_keptMany : Int32} {v_done : Int32} {v_changeWas : List Int32} {v_changeIs : List Int32} {v_isKept : Bool} {v_imageRows : Int32} {v_imageColumns : Int32} {v_tapeMany : Int32} (g_0 : gm_ch v_keptMany v_done v_limit v_changeWas v_changeIs) (g_1 : gm_sh v_rowsOf v_columnsOf v_isKept v_imageRows v_imageColumns v_shapeRows v_shapeColumns v_row v_column v_below v_face v_worn v_lastBend) (g_2 : gm_tx v_tapeMany v_textMany v_tape v_text v_names v_bends v_high v_to v_pileSize) (g_3 : gm_pl v_planned v_planLine v_planWay) : wp (fX9_top 700 x1 x2 v_rowsOf v_columnsOf v_textMany v_base v_at v_ends v_fault v_opened v_bentMany v_bentWrong v_moreWorn v_planned v_allWrong v_allWorn v_z v_limit v_shapeRows v_shapeColumns v_row v_column v_below v_face v_worn v_lastBend v_tape v_text v_names v_bends v_high v_to v_pileSize v_planLine v_planWay) (cu25 (fun (r : Int32) (wv_base : Int32) (wv_at : Int32) (wv_ends : Int32) (wv_fault : Int32) (wv_opened : Int32) (wv_bentMany : Int32) (wv_bentWrong : Int32) (wv_moreWorn : Int32) (wv_allWrong : Int32) (wv_allWorn : Int32) (wv_z : Int32) (wv_shapeRows : List Int32) (wv_shapeColumns : List Int32) (wv_row : List Int32) (wv_column : List Int32) (wv_below : List Int32) (wv_face : List Int32) (wv_worn : List Int32) (wv_lastBend : List Int32) (wv_names : List Int32) (wv_bends : List Int32) (wv_high : List Int32) (wv_to : List Int32) (wv_pileSize : List Int32) => gm_sh v_rowsOf v_columnsOf v_isKept v_imageRows v_imageColumns wv_shapeRows wv_shapeColumns wv_row wv_column wv_below wv_face wv_worn wv_lastBend ∧ gm_tx v_tapeMany v_textMany v_tape v_text wv_names wv_bends wv_high wv_to wv_pileSize)) := by
  obtain ⟨a_0_0, a_0_1, a_0_2, a_0_3, a_0_4, a_0_5, a_0_6, a_0_7⟩ := id g_0
  obtain ⟨a_1_0, a_1_1, a_1_2, a_1_3, a_1_4, a_1_5, a_1_6, a_1_7, a_1_8, a_1_9, a_1_10, a_1_11, a_1_12, a_1_13⟩ := id g_1
  obtain ⟨a_2_0, a_2_1, a_2_2, a_2_3, a_2_4, a_2_5, a_2_6, a_2_7, a_2_8, a_2_9, a_2_10⟩ := id g_2
  obtain ⟨a_3_0, a_3_1, a_3_2, a_3_3⟩ := id g_3
  have n0 : (0 : Int32).toInt = 0 := by decide
  have n1 : (1 : Int32).toInt = 1 := by decide
  have n5 : (5 : Int32).toInt = 5 := by decide
  refine wp_cu25 (sf_X9_top (u_row := v_row) (u_col := v_column) (u_sR := v_shapeRows) (u_sC := v_shapeColumns) (A := 32) (B9 := 160) (a9 := 1) (b9 := 5) (Nat.le_refl 700) a_1_0 a_1_1 a_1_2 a_1_3 a_2_2 a_2_3 a_3_0 a_3_1 a_0_4 a_1_4 a_1_5 a_1_6 a_1_7 a_1_8 a_1_9 a_1_10 a_1_11 a_2_4 a_2_5 a_2_6 a_2_7 a_2_8 a_2_9 a_2_10 a_3_2 a_3_3 (fr_refl _ _ _) (fr_refl _ _ _) (fr_refl _ _ _) (fr_refl _ _ _) (by omega) (by omega) (by omega) (by omega)) (fun r wv_base wv_at wv_ends wv_fault wv_opened wv_bentMany wv_bentWrong wv_moreWorn wv_allWrong wv_allWorn wv_z wv_shapeRows wv_shapeColumns wv_row wv_column wv_below wv_face wv_worn wv_lastBend wv_names wv_bends wv_high wv_to wv_pileSize ⟨q_0, q_1, q_2, q_3, q_4, q_5, q_6, q_7, q_8, q_9, q_10, q_11, q_12, q_13, q_14, q_15, q_16⟩ => ?_)
  have l_0 : lv9 v_rowsOf v_columnsOf wv_shapeRows wv_shapeColumns wv_row wv_column (0 : Int32) := lv9_fr a_1_12 q_15 q_16 q_13 q_14 (by omega) (by omega) (by omega) (by omega) (i_fl a_1_0 a_1_1 a_1_2 a_1_3).2.2
  have l_5 : ¬ (v_isKept = false) → 1 ≤ v_imageRows.toInt ∧ v_imageRows.toInt ≤ 4 ∧ 1 ≤ v_imageColumns.toInt ∧ v_imageColumns.toInt ≤ 8 ∧ lv9 v_imageRows v_imageColumns wv_shapeRows wv_shapeColumns wv_row wv_column (5 : Int32) := fun hk => (by
    obtain ⟨j_0, j_1, j_2, j_3, j_4⟩ := a_1_13 hk
    exact ⟨j_0, j_1, j_2, j_3, lv9_fr j_4 q_15 q_16 q_13 q_14 (by omega) (by omega) (by omega) (by omega) (i_fl j_0 j_1 j_2 j_3).2.2⟩)
  exact ⟨⟨a_1_0, a_1_1, a_1_2, a_1_3, q_0, q_1, q_2, q_3, q_4, q_5, q_6, q_7, l_0, l_5⟩, ⟨a_2_0, a_2_1, a_2_2, a_2_3, a_2_4, a_2_5, q_8, q_9, q_10, q_11, q_12⟩⟩
set_option maxHeartbeats 4000000 in
set_option maxRecDepth 20000 in
theorem st9_beside {x1 : Int32} {x2 : Int32} {v_rowsOf : Int32} {v_columnsOf : Int32} {v_textMany : Int32} {v_base : Int32} {v_at : Int32} {v_ends : Int32} {v_fault : Int32} {v_opened : Int32} {v_bentMany : Int32} {v_bentWrong : Int32} {v_moreWorn : Int32} {v_planned : Int32} {v_allWrong : Int32} {v_allWorn : Int32} {v_z : Int32} {v_limit : List Int32} {v_shapeRows : List Int32} {v_shapeColumns : List Int32} {v_row : List Int32} {v_column : List Int32} {v_below : List Int32} {v_face : List Int32} {v_worn : List Int32} {v_lastBend : List Int32} {v_tape : List Int32} {v_text : List Int32} {v_names : List Int32} {v_bends : List Int32} {v_high : List Int32} {v_to : List Int32} {v_pileSize : List Int32} {v_planLine : List Int32} {v_planWay : List Int32} {v_keptMany : Int32} {v_done : Int32} {v_changeWas : List Int32} {v_changeIs : List Int32} {v_isKept : Bool} {v_imageRows : Int32} {v_imageColumns : Int32} {v_tapeMany : Int32} (g_0 : gm_ch v_keptMany v_done v_limit v_changeWas v_changeIs) (g_1 : gm_sh v_rowsOf v_columnsOf v_isKept v_imageRows v_imageColumns v_shapeRows v_shapeColumns v_row v_column v_below v_face v_worn v_lastBend) (g_2 : gm_tx v_tapeMany v_textMany v_tape v_text v_names v_bends v_high v_to v_pileSize) (g_3 : gm_pl v_planned v_planLine v_planWay) : wp (fX9_beside 700 x1 x2 v_rowsOf v_columnsOf v_textMany v_base v_at v_ends v_fault v_opened v_bentMany v_bentWrong v_moreWorn v_planned v_allWrong v_allWorn v_z v_limit v_shapeRows v_shapeColumns v_row v_column v_below v_face v_worn v_lastBend v_tape v_text v_names v_bends v_high v_to v_pileSize v_planLine v_planWay) (cu25 (fun (r : Int32) (wv_base : Int32) (wv_at : Int32) (wv_ends : Int32) (wv_fault : Int32) (wv_opened : Int32) (wv_bentMany : Int32) (wv_bentWrong : Int32) (wv_moreWorn : Int32) (wv_allWrong : Int32) (wv_allWorn : Int32) (wv_z : Int32) (wv_shapeRows : List Int32) (wv_shapeColumns : List Int32) (wv_row : List Int32) (wv_column : List Int32) (wv_below : List Int32) (wv_face : List Int32) (wv_worn : List Int32) (wv_lastBend : List Int32) (wv_names : List Int32) (wv_bends : List Int32) (wv_high : List Int32) (wv_to : List Int32) (wv_pileSize : List Int32) => gm_sh v_rowsOf v_columnsOf v_isKept v_imageRows v_imageColumns wv_shapeRows wv_shapeColumns wv_row wv_column wv_below wv_face wv_worn wv_lastBend ∧ gm_tx v_tapeMany v_textMany v_tape v_text wv_names wv_bends wv_high wv_to wv_pileSize)) := by
  obtain ⟨a_0_0, a_0_1, a_0_2, a_0_3, a_0_4, a_0_5, a_0_6, a_0_7⟩ := id g_0
  obtain ⟨a_1_0, a_1_1, a_1_2, a_1_3, a_1_4, a_1_5, a_1_6, a_1_7, a_1_8, a_1_9, a_1_10, a_1_11, a_1_12, a_1_13⟩ := id g_1
  obtain ⟨a_2_0, a_2_1, a_2_2, a_2_3, a_2_4, a_2_5, a_2_6, a_2_7, a_2_8, a_2_9, a_2_10⟩ := id g_2
  obtain ⟨a_3_0, a_3_1, a_3_2, a_3_3⟩ := id g_3
  have n0 : (0 : Int32).toInt = 0 := by decide
  have n1 : (1 : Int32).toInt = 1 := by decide
  have n5 : (5 : Int32).toInt = 5 := by decide
  refine wp_cu25 (sf_X9_beside (u_row := v_row) (u_col := v_column) (u_sR := v_shapeRows) (u_sC := v_shapeColumns) (A := 32) (B9 := 160) (a9 := 1) (b9 := 5) (Nat.le_refl 700) a_1_0 a_1_1 a_1_2 a_1_3 a_2_2 a_2_3 a_3_0 a_3_1 a_0_4 a_1_4 a_1_5 a_1_6 a_1_7 a_1_8 a_1_9 a_1_10 a_1_11 a_2_4 a_2_5 a_2_6 a_2_7 a_2_8 a_2_9 a_2_10 a_3_2 a_3_3 (fr_refl _ _ _) (fr_refl _ _ _) (fr_refl _ _ _) (fr_refl _ _ _) (by omega) (by omega) (by omega) (by omega)) (fun r wv_base wv_at wv_ends wv_fault wv_opened wv_bentMany wv_bentWrong wv_moreWorn wv_allWrong wv_allWorn wv_z wv_shapeRows wv_shapeColumns wv_row wv_column wv_below wv_face wv_worn wv_lastBend wv_names wv_bends wv_high wv_to wv_pileSize ⟨q_0, q_1, q_2, q_3, q_4, q_5, q_6, q_7, q_8, q_9, q_10, q_11, q_12, q_13, q_14, q_15, q_16⟩ => ?_)
  have l_0 : lv9 v_rowsOf v_columnsOf wv_shapeRows wv_shapeColumns wv_row wv_column (0 : Int32) := lv9_fr a_1_12 q_15 q_16 q_13 q_14 (by omega) (by omega) (by omega) (by omega) (i_fl a_1_0 a_1_1 a_1_2 a_1_3).2.2
  have l_5 : ¬ (v_isKept = false) → 1 ≤ v_imageRows.toInt ∧ v_imageRows.toInt ≤ 4 ∧ 1 ≤ v_imageColumns.toInt ∧ v_imageColumns.toInt ≤ 8 ∧ lv9 v_imageRows v_imageColumns wv_shapeRows wv_shapeColumns wv_row wv_column (5 : Int32) := fun hk => (by
    obtain ⟨j_0, j_1, j_2, j_3, j_4⟩ := a_1_13 hk
    exact ⟨j_0, j_1, j_2, j_3, lv9_fr j_4 q_15 q_16 q_13 q_14 (by omega) (by omega) (by omega) (by omega) (i_fl j_0 j_1 j_2 j_3).2.2⟩)
  exact ⟨⟨a_1_0, a_1_1, a_1_2, a_1_3, q_0, q_1, q_2, q_3, q_4, q_5, q_6, q_7, l_0, l_5⟩, ⟨a_2_0, a_2_1, a_2_2, a_2_3, a_2_4, a_2_5, q_8, q_9, q_10, q_11, q_12⟩⟩
set_option maxHeartbeats 4000000 in
set_option maxRecDepth 20000 in
theorem st9_wished {x1 : Int32} {x2 : Int32} {v_rowsOf : Int32} {v_columnsOf : Int32} {v_textMany : Int32} {v_base : Int32} {v_at : Int32} {v_ends : Int32} {v_fault : Int32} {v_opened : Int32} {v_bentMany : Int32} {v_bentWrong : Int32} {v_moreWorn : Int32} {v_wishedField : Int32} {v_isFound : Bool} {v_bestWrong : Int32} {v_bestWorn : Int32} {v_bestMany : Int32} {v_limit : List Int32} {v_shapeRows : List Int32} {v_shapeColumns : List Int32} {v_row : List Int32} {v_column : List Int32} {v_below : List Int32} {v_face : List Int32} {v_worn : List Int32} {v_lastBend : List Int32} {v_tape : List Int32} {v_text : List Int32} {v_names : List Int32} {v_bends : List Int32} {v_high : List Int32} {v_to : List Int32} {v_pileSize : List Int32} {v_way1 : List Int32} {v_bestWay : List Int32} {v_keptMany : Int32} {v_done : Int32} {v_changeWas : List Int32} {v_changeIs : List Int32} {v_isKept : Bool} {v_imageRows : Int32} {v_imageColumns : Int32} {v_tapeMany : Int32} (g_0 : gm_ch v_keptMany v_done v_limit v_changeWas v_changeIs) (g_1 : gm_sh v_rowsOf v_columnsOf v_isKept v_imageRows v_imageColumns v_shapeRows v_shapeColumns v_row v_column v_below v_face v_worn v_lastBend) (g_2 : gm_tx v_tapeMany v_textMany v_tape v_text v_names v_bends v_high v_to v_pileSize) (g_3 : gm_se v_bestMany v_way1 v_bestWay) : wp (fX9_wished 700 x1 x2 v_rowsOf v_columnsOf v_textMany v_base v_at v_ends v_fault v_opened v_bentMany v_bentWrong v_moreWorn v_wishedField v_isFound v_bestWrong v_bestWorn v_bestMany v_limit v_shapeRows v_shapeColumns v_row v_column v_below v_face v_worn v_lastBend v_tape v_text v_names v_bends v_high v_to v_pileSize v_way1 v_bestWay) (cu29 (fun (r : Int32) (wv_base : Int32) (wv_at : Int32) (wv_ends : Int32) (wv_fault : Int32) (wv_opened : Int32) (wv_bentMany : Int32) (wv_bentWrong : Int32) (wv_moreWorn : Int32) (wv_wishedField : Int32) (wv_isFound : Bool) (wv_bestWrong : Int32) (wv_bestWorn : Int32) (wv_bestMany : Int32) (wv_shapeRows : List Int32) (wv_shapeColumns : List Int32) (wv_row : List Int32) (wv_column : List Int32) (wv_below : List Int32) (wv_face : List Int32) (wv_worn : List Int32) (wv_lastBend : List Int32) (wv_names : List Int32) (wv_bends : List Int32) (wv_high : List Int32) (wv_to : List Int32) (wv_pileSize : List Int32) (wv_way1 : List Int32) (wv_bestWay : List Int32) => gm_sh v_rowsOf v_columnsOf v_isKept v_imageRows v_imageColumns wv_shapeRows wv_shapeColumns wv_row wv_column wv_below wv_face wv_worn wv_lastBend ∧ gm_tx v_tapeMany v_textMany v_tape v_text wv_names wv_bends wv_high wv_to wv_pileSize ∧ gm_se wv_bestMany wv_way1 wv_bestWay)) := by
  obtain ⟨a_0_0, a_0_1, a_0_2, a_0_3, a_0_4, a_0_5, a_0_6, a_0_7⟩ := id g_0
  obtain ⟨a_1_0, a_1_1, a_1_2, a_1_3, a_1_4, a_1_5, a_1_6, a_1_7, a_1_8, a_1_9, a_1_10, a_1_11, a_1_12, a_1_13⟩ := id g_1
  obtain ⟨a_2_0, a_2_1, a_2_2, a_2_3, a_2_4, a_2_5, a_2_6, a_2_7, a_2_8, a_2_9, a_2_10⟩ := id g_2
  obtain ⟨a_3_0, a_3_1, a_3_2, a_3_3⟩ := id g_3
  have n0 : (0 : Int32).toInt = 0 := by decide
  have n1 : (1 : Int32).toInt = 1 := by decide
  have n5 : (5 : Int32).toInt = 5 := by decide
  refine wp_cu29 (sf_X9_wished (u_row := v_row) (u_col := v_column) (u_sR := v_shapeRows) (u_sC := v_shapeColumns) (A := 32) (B9 := 160) (a9 := 1) (b9 := 5) (Nat.le_refl 700) a_1_0 a_1_1 a_1_2 a_1_3 a_2_2 a_2_3 a_3_0 a_3_1 a_0_4 a_1_4 a_1_5 a_1_6 a_1_7 a_1_8 a_1_9 a_1_10 a_1_11 a_2_4 a_2_5 a_2_6 a_2_7 a_2_8 a_2_9 a_2_10 a_3_2 a_3_3 (fr_refl _ _ _) (fr_refl _ _ _) (fr_refl _ _ _) (fr_refl _ _ _) (by omega) (by omega) (by omega) (by omega)) (fun r wv_base wv_at wv_ends wv_fault wv_opened wv_bentMany wv_bentWrong wv_moreWorn wv_wishedField wv_isFound wv_bestWrong wv_bestWorn wv_bestMany wv_shapeRows wv_shapeColumns wv_row wv_column wv_below wv_face wv_worn wv_lastBend wv_names wv_bends wv_high wv_to wv_pileSize wv_way1 wv_bestWay ⟨q_0, q_1, q_2, q_3, q_4, q_5, q_6, q_7, q_8, q_9, q_10, q_11, q_12, q_13, q_14, q_15, q_16, q_17, q_18, q_19, q_20⟩ => ?_)
  have l_0 : lv9 v_rowsOf v_columnsOf wv_shapeRows wv_shapeColumns wv_row wv_column (0 : Int32) := lv9_fr a_1_12 q_19 q_20 q_17 q_18 (by omega) (by omega) (by omega) (by omega) (i_fl a_1_0 a_1_1 a_1_2 a_1_3).2.2
  have l_5 : ¬ (v_isKept = false) → 1 ≤ v_imageRows.toInt ∧ v_imageRows.toInt ≤ 4 ∧ 1 ≤ v_imageColumns.toInt ∧ v_imageColumns.toInt ≤ 8 ∧ lv9 v_imageRows v_imageColumns wv_shapeRows wv_shapeColumns wv_row wv_column (5 : Int32) := fun hk => (by
    obtain ⟨j_0, j_1, j_2, j_3, j_4⟩ := a_1_13 hk
    exact ⟨j_0, j_1, j_2, j_3, lv9_fr j_4 q_19 q_20 q_17 q_18 (by omega) (by omega) (by omega) (by omega) (i_fl j_0 j_1 j_2 j_3).2.2⟩)
  exact ⟨⟨a_1_0, a_1_1, a_1_2, a_1_3, q_2, q_3, q_4, q_5, q_6, q_7, q_8, q_9, l_0, l_5⟩, ⟨a_2_0, a_2_1, a_2_2, a_2_3, a_2_4, a_2_5, q_10, q_11, q_12, q_13, q_14⟩, ⟨q_0, q_1, q_15, q_16⟩⟩
set_option maxHeartbeats 4000000 in
set_option maxRecDepth 20000 in
theorem st9_right {x1 : Int32} {v_rowsOf : Int32} {v_columnsOf : Int32} {v_textMany : Int32} {v_base : Int32} {v_at : Int32} {v_ends : Int32} {v_fault : Int32} {v_opened : Int32} {v_bentMany : Int32} {v_bentWrong : Int32} {v_moreWorn : Int32} {v_wishedField : Int32} {v_isFound : Bool} {v_bestWrong : Int32} {v_bestWorn : Int32} {v_bestMany : Int32} {v_limit : List Int32} {v_shapeRows : List Int32} {v_shapeColumns : List Int32} {v_row : List Int32} {v_column : List Int32} {v_below : List Int32} {v_face : List Int32} {v_worn : List Int32} {v_lastBend : List Int32} {v_tape : List Int32} {v_text : List Int32} {v_names : List Int32} {v_bends : List Int32} {v_high : List Int32} {v_to : List Int32} {v_pileSize : List Int32} {v_way1 : List Int32} {v_bestWay : List Int32} {v_keptMany : Int32} {v_done : Int32} {v_changeWas : List Int32} {v_changeIs : List Int32} {v_isKept : Bool} {v_imageRows : Int32} {v_imageColumns : Int32} {v_tapeMany : Int32} (g_0 : gm_ch v_keptMany v_done v_limit v_changeWas v_changeIs) (g_1 : gm_sh v_rowsOf v_columnsOf v_isKept v_imageRows v_imageColumns v_shapeRows v_shapeColumns v_row v_column v_below v_face v_worn v_lastBend) (g_2 : gm_tx v_tapeMany v_textMany v_tape v_text v_names v_bends v_high v_to v_pileSize) (g_3 : gm_se v_bestMany v_way1 v_bestWay) : wp (fX9_right 700 x1 v_rowsOf v_columnsOf v_textMany v_base v_at v_ends v_fault v_opened v_bentMany v_bentWrong v_moreWorn v_wishedField v_isFound v_bestWrong v_bestWorn v_bestMany v_limit v_shapeRows v_shapeColumns v_row v_column v_below v_face v_worn v_lastBend v_tape v_text v_names v_bends v_high v_to v_pileSize v_way1 v_bestWay) (cu29 (fun (r : Int32) (wv_base : Int32) (wv_at : Int32) (wv_ends : Int32) (wv_fault : Int32) (wv_opened : Int32) (wv_bentMany : Int32) (wv_bentWrong : Int32) (wv_moreWorn : Int32) (wv_wishedField : Int32) (wv_isFound : Bool) (wv_bestWrong : Int32) (wv_bestWorn : Int32) (wv_bestMany : Int32) (wv_shapeRows : List Int32) (wv_shapeColumns : List Int32) (wv_row : List Int32) (wv_column : List Int32) (wv_below : List Int32) (wv_face : List Int32) (wv_worn : List Int32) (wv_lastBend : List Int32) (wv_names : List Int32) (wv_bends : List Int32) (wv_high : List Int32) (wv_to : List Int32) (wv_pileSize : List Int32) (wv_way1 : List Int32) (wv_bestWay : List Int32) => gm_sh v_rowsOf v_columnsOf v_isKept v_imageRows v_imageColumns wv_shapeRows wv_shapeColumns wv_row wv_column wv_below wv_face wv_worn wv_lastBend ∧ gm_tx v_tapeMany v_textMany v_tape v_text wv_names wv_bends wv_high wv_to wv_pileSize ∧ gm_se wv_bestMany wv_way1 wv_bestWay)) := by
  obtain ⟨a_0_0, a_0_1, a_0_2, a_0_3, a_0_4, a_0_5, a_0_6, a_0_7⟩ := id g_0
  obtain ⟨a_1_0, a_1_1, a_1_2, a_1_3, a_1_4, a_1_5, a_1_6, a_1_7, a_1_8, a_1_9, a_1_10, a_1_11, a_1_12, a_1_13⟩ := id g_1
  obtain ⟨a_2_0, a_2_1, a_2_2, a_2_3, a_2_4, a_2_5, a_2_6, a_2_7, a_2_8, a_2_9, a_2_10⟩ := id g_2
  obtain ⟨a_3_0, a_3_1, a_3_2, a_3_3⟩ := id g_3
  have n0 : (0 : Int32).toInt = 0 := by decide
  have n1 : (1 : Int32).toInt = 1 := by decide
  have n5 : (5 : Int32).toInt = 5 := by decide
  refine wp_cu29 (sf_X9_right (u_row := v_row) (u_col := v_column) (u_sR := v_shapeRows) (u_sC := v_shapeColumns) (A := 32) (B9 := 160) (a9 := 1) (b9 := 5) (Nat.le_refl 700) a_1_0 a_1_1 a_1_2 a_1_3 a_2_2 a_2_3 a_3_0 a_3_1 a_0_4 a_1_4 a_1_5 a_1_6 a_1_7 a_1_8 a_1_9 a_1_10 a_1_11 a_2_4 a_2_5 a_2_6 a_2_7 a_2_8 a_2_9 a_2_10 a_3_2 a_3_3 (fr_refl _ _ _) (fr_refl _ _ _) (fr_refl _ _ _) (fr_refl _ _ _) (by omega) (by omega) (by omega) (by omega)) (fun r wv_base wv_at wv_ends wv_fault wv_opened wv_bentMany wv_bentWrong wv_moreWorn wv_wishedField wv_isFound wv_bestWrong wv_bestWorn wv_bestMany wv_shapeRows wv_shapeColumns wv_row wv_column wv_below wv_face wv_worn wv_lastBend wv_names wv_bends wv_high wv_to wv_pileSize wv_way1 wv_bestWay ⟨q_0, q_1, q_2, q_3, q_4, q_5, q_6, q_7, q_8, q_9, q_10, q_11, q_12, q_13, q_14, q_15, q_16, q_17, q_18, q_19, q_20⟩ => ?_)
  have l_0 : lv9 v_rowsOf v_columnsOf wv_shapeRows wv_shapeColumns wv_row wv_column (0 : Int32) := lv9_fr a_1_12 q_19 q_20 q_17 q_18 (by omega) (by omega) (by omega) (by omega) (i_fl a_1_0 a_1_1 a_1_2 a_1_3).2.2
  have l_5 : ¬ (v_isKept = false) → 1 ≤ v_imageRows.toInt ∧ v_imageRows.toInt ≤ 4 ∧ 1 ≤ v_imageColumns.toInt ∧ v_imageColumns.toInt ≤ 8 ∧ lv9 v_imageRows v_imageColumns wv_shapeRows wv_shapeColumns wv_row wv_column (5 : Int32) := fun hk => (by
    obtain ⟨j_0, j_1, j_2, j_3, j_4⟩ := a_1_13 hk
    exact ⟨j_0, j_1, j_2, j_3, lv9_fr j_4 q_19 q_20 q_17 q_18 (by omega) (by omega) (by omega) (by omega) (i_fl j_0 j_1 j_2 j_3).2.2⟩)
  exact ⟨⟨a_1_0, a_1_1, a_1_2, a_1_3, q_2, q_3, q_4, q_5, q_6, q_7, q_8, q_9, l_0, l_5⟩, ⟨a_2_0, a_2_1, a_2_2, a_2_3, a_2_4, a_2_5, q_10, q_11, q_12, q_13, q_14⟩, ⟨q_0, q_1, q_15, q_16⟩⟩
set_option maxHeartbeats 4000000 in
set_option maxRecDepth 20000 in
theorem st9_wind {x1 : Int32} {x2 : Int32} {x3 : Int32} {v_rowsOf : Int32} {v_columnsOf : Int32} {v_textMany : Int32} {v_base : Int32} {v_at : Int32} {v_ends : Int32} {v_fault : Int32} {v_opened : Int32} {v_bentMany : Int32} {v_bentWrong : Int32} {v_moreWorn : Int32} {v_planned : Int32} {v_allWrong : Int32} {v_allWorn : Int32} {v_z : Int32} {v_limit : List Int32} {v_shapeRows : List Int32} {v_shapeColumns : List Int32} {v_row : List Int32} {v_column : List Int32} {v_below : List Int32} {v_face : List Int32} {v_worn : List Int32} {v_lastBend : List Int32} {v_tape : List Int32} {v_text : List Int32} {v_names : List Int32} {v_bends : List Int32} {v_high : List Int32} {v_to : List Int32} {v_pileSize : List Int32} {v_planLine : List Int32} {v_planWay : List Int32} {v_keptMany : Int32} {v_done : Int32} {v_changeWas : List Int32} {v_changeIs : List Int32} {v_isKept : Bool} {v_imageRows : Int32} {v_imageColumns : Int32} {v_tapeMany : Int32} (g_0 : gm_ch v_keptMany v_done v_limit v_changeWas v_changeIs) (g_1 : gm_sh v_rowsOf v_columnsOf v_isKept v_imageRows v_imageColumns v_shapeRows v_shapeColumns v_row v_column v_below v_face v_worn v_lastBend) (g_2 : gm_tx v_tapeMany v_textMany v_tape v_text v_names v_bends v_high v_to v_pileSize) (g_3 : gm_pl v_planned v_planLine v_planWay) : wp (fX9_wind 700 x1 x2 x3 v_rowsOf v_columnsOf v_textMany v_base v_at v_ends v_fault v_opened v_bentMany v_bentWrong v_moreWorn v_planned v_allWrong v_allWorn v_z v_limit v_shapeRows v_shapeColumns v_row v_column v_below v_face v_worn v_lastBend v_tape v_text v_names v_bends v_high v_to v_pileSize v_planLine v_planWay) (cu25 (fun (r : Int32) (wv_base : Int32) (wv_at : Int32) (wv_ends : Int32) (wv_fault : Int32) (wv_opened : Int32) (wv_bentMany : Int32) (wv_bentWrong : Int32) (wv_moreWorn : Int32) (wv_allWrong : Int32) (wv_allWorn : Int32) (wv_z : Int32) (wv_shapeRows : List Int32) (wv_shapeColumns : List Int32) (wv_row : List Int32) (wv_column : List Int32) (wv_below : List Int32) (wv_face : List Int32) (wv_worn : List Int32) (wv_lastBend : List Int32) (wv_names : List Int32) (wv_bends : List Int32) (wv_high : List Int32) (wv_to : List Int32) (wv_pileSize : List Int32) => gm_sh v_rowsOf v_columnsOf v_isKept v_imageRows v_imageColumns wv_shapeRows wv_shapeColumns wv_row wv_column wv_below wv_face wv_worn wv_lastBend ∧ gm_tx v_tapeMany v_textMany v_tape v_text wv_names wv_bends wv_high wv_to wv_pileSize)) := by
  obtain ⟨a_0_0, a_0_1, a_0_2, a_0_3, a_0_4, a_0_5, a_0_6, a_0_7⟩ := id g_0
  obtain ⟨a_1_0, a_1_1, a_1_2, a_1_3, a_1_4, a_1_5, a_1_6, a_1_7, a_1_8, a_1_9, a_1_10, a_1_11, a_1_12, a_1_13⟩ := id g_1
  obtain ⟨a_2_0, a_2_1, a_2_2, a_2_3, a_2_4, a_2_5, a_2_6, a_2_7, a_2_8, a_2_9, a_2_10⟩ := id g_2
  obtain ⟨a_3_0, a_3_1, a_3_2, a_3_3⟩ := id g_3
  have n0 : (0 : Int32).toInt = 0 := by decide
  have n1 : (1 : Int32).toInt = 1 := by decide
  have n5 : (5 : Int32).toInt = 5 := by decide
  refine wp_cu25 (sf_X9_wind (u_row := v_row) (u_col := v_column) (u_sR := v_shapeRows) (u_sC := v_shapeColumns) (A := 32) (B9 := 160) (a9 := 1) (b9 := 5) (Nat.le_refl 700) a_1_0 a_1_1 a_1_2 a_1_3 a_2_2 a_2_3 a_3_0 a_3_1 a_0_4 a_1_4 a_1_5 a_1_6 a_1_7 a_1_8 a_1_9 a_1_10 a_1_11 a_2_4 a_2_5 a_2_6 a_2_7 a_2_8 a_2_9 a_2_10 a_3_2 a_3_3 (fr_refl _ _ _) (fr_refl _ _ _) (fr_refl _ _ _) (fr_refl _ _ _) (by omega) (by omega) (by omega) (by omega)) (fun r wv_base wv_at wv_ends wv_fault wv_opened wv_bentMany wv_bentWrong wv_moreWorn wv_allWrong wv_allWorn wv_z wv_shapeRows wv_shapeColumns wv_row wv_column wv_below wv_face wv_worn wv_lastBend wv_names wv_bends wv_high wv_to wv_pileSize ⟨q_0, q_1, q_2, q_3, q_4, q_5, q_6, q_7, q_8, q_9, q_10, q_11, q_12, q_13, q_14, q_15, q_16⟩ => ?_)
  have l_0 : lv9 v_rowsOf v_columnsOf wv_shapeRows wv_shapeColumns wv_row wv_column (0 : Int32) := lv9_fr a_1_12 q_15 q_16 q_13 q_14 (by omega) (by omega) (by omega) (by omega) (i_fl a_1_0 a_1_1 a_1_2 a_1_3).2.2
  have l_5 : ¬ (v_isKept = false) → 1 ≤ v_imageRows.toInt ∧ v_imageRows.toInt ≤ 4 ∧ 1 ≤ v_imageColumns.toInt ∧ v_imageColumns.toInt ≤ 8 ∧ lv9 v_imageRows v_imageColumns wv_shapeRows wv_shapeColumns wv_row wv_column (5 : Int32) := fun hk => (by
    obtain ⟨j_0, j_1, j_2, j_3, j_4⟩ := a_1_13 hk
    exact ⟨j_0, j_1, j_2, j_3, lv9_fr j_4 q_15 q_16 q_13 q_14 (by omega) (by omega) (by omega) (by omega) (i_fl j_0 j_1 j_2 j_3).2.2⟩)
  exact ⟨⟨a_1_0, a_1_1, a_1_2, a_1_3, q_0, q_1, q_2, q_3, q_4, q_5, q_6, q_7, l_0, l_5⟩, ⟨a_2_0, a_2_1, a_2_2, a_2_3, a_2_4, a_2_5, q_8, q_9, q_10, q_11, q_12⟩⟩
set_option maxHeartbeats 4000000 in
set_option maxRecDepth 20000 in
theorem st9_crosses {x1 : Int32} {x2 : Int32} {v_order1 : List Int32} {v_placeIn : List Int32} (g_0 : gm_or v_order1 v_placeIn) : wp (fX9_crosses 700 x1 x2 v_order1 v_placeIn) (cu3 (fun (r : Int32) (wv_order1 : List Int32) (wv_placeIn : List Int32) => gm_or wv_order1 wv_placeIn)) := by
  obtain ⟨a_0_0, a_0_1⟩ := id g_0
  refine wp_cu3 (sf_X9_crosses (Nat.le_refl 700) a_0_0 a_0_1) (fun r wv_order1 wv_placeIn ⟨q_0, q_1⟩ => ?_)
  exact ⟨q_0, q_1⟩
set_option maxHeartbeats 4000000 in
set_option maxRecDepth 20000 in
theorem st9_orders {x1 : Int32} {x2 : Int32} {v_soughtBy : Int32} {v_sought : Int32} {v_soughtAt : Int32} {v_foundMany : Int32} {v_foundOrder : Int32} {v_order1 : List Int32} {v_placeIn : List Int32} (g_0 : gm_or v_order1 v_placeIn) : wp (fX9_orders 700 x1 x2 v_soughtBy v_sought v_soughtAt v_foundMany v_foundOrder v_order1 v_placeIn) (cu8 (fun (r : Int32) (wv_soughtBy : Int32) (wv_sought : Int32) (wv_soughtAt : Int32) (wv_foundMany : Int32) (wv_foundOrder : Int32) (wv_order1 : List Int32) (wv_placeIn : List Int32) => gm_or wv_order1 wv_placeIn)) := by
  obtain ⟨a_0_0, a_0_1⟩ := id g_0
  refine wp_cu8 (sf_X9_orders (Nat.le_refl 700) a_0_0 a_0_1) (fun r wv_soughtBy wv_sought wv_soughtAt wv_foundMany wv_foundOrder wv_order1 wv_placeIn ⟨q_0, q_1⟩ => ?_)
  exact ⟨q_0, q_1⟩
set_option maxHeartbeats 4000000 in
set_option maxRecDepth 20000 in
theorem st9_bends {x1 : Int32} {x2 : Int32} {v_order1 : List Int32} {v_placeIn : List Int32} (g_0 : gm_or v_order1 v_placeIn) : wp (fX9_bends 700 x1 x2 v_order1 v_placeIn) (cu3 (fun (r : Int32) (wv_order1 : List Int32) (wv_placeIn : List Int32) => gm_or wv_order1 wv_placeIn)) := by
  obtain ⟨a_0_0, a_0_1⟩ := id g_0
  refine wp_cu3 (sf_X9_bends (Nat.le_refl 700) a_0_0 a_0_1) (fun r wv_order1 wv_placeIn ⟨q_0, q_1⟩ => ?_)
  exact ⟨q_0, q_1⟩
set_option maxHeartbeats 4000000 in
set_option maxRecDepth 20000 in
theorem st9_by {x1 : Int32} {x2 : Int32} {x3 : Int32} {v_soughtBy : Int32} {v_sought : Int32} {v_soughtAt : Int32} {v_foundMany : Int32} {v_foundOrder : Int32} {v_order1 : List Int32} {v_placeIn : List Int32} (g_0 : gm_or v_order1 v_placeIn) : wp (fX9_by 700 x1 x2 x3 v_soughtBy v_sought v_soughtAt v_foundMany v_foundOrder v_order1 v_placeIn) (cu8 (fun (r : Int32) (wv_soughtBy : Int32) (wv_sought : Int32) (wv_soughtAt : Int32) (wv_foundMany : Int32) (wv_foundOrder : Int32) (wv_order1 : List Int32) (wv_placeIn : List Int32) => gm_or wv_order1 wv_placeIn)) := by
  obtain ⟨a_0_0, a_0_1⟩ := id g_0
  refine wp_cu8 (sf_X9_by (Nat.le_refl 700) a_0_0 a_0_1) (fun r wv_soughtBy wv_sought wv_soughtAt wv_foundMany wv_foundOrder wv_order1 wv_placeIn ⟨q_0, q_1⟩ => ?_)
  exact ⟨q_0, q_1⟩
set_option maxHeartbeats 4000000 in
set_option maxRecDepth 20000 in
theorem st9_with {x1 : Int32} {x2 : Int32} {v_soughtBy : Int32} {v_sought : Int32} {v_soughtAt : Int32} {v_foundMany : Int32} {v_foundOrder : Int32} {v_order1 : List Int32} {v_placeIn : List Int32} (g_0 : gm_or v_order1 v_placeIn) : wp (fX9_with 700 x1 x2 v_soughtBy v_sought v_soughtAt v_foundMany v_foundOrder v_order1 v_placeIn) (cu8 (fun (r : Int32) (wv_soughtBy : Int32) (wv_sought : Int32) (wv_soughtAt : Int32) (wv_foundMany : Int32) (wv_foundOrder : Int32) (wv_order1 : List Int32) (wv_placeIn : List Int32) => gm_or wv_order1 wv_placeIn)) := by
  obtain ⟨a_0_0, a_0_1⟩ := id g_0
  refine wp_cu8 (sf_X9_with (Nat.le_refl 700) a_0_0 a_0_1) (fun r wv_soughtBy wv_sought wv_soughtAt wv_foundMany wv_foundOrder wv_order1 wv_placeIn ⟨q_0, q_1⟩ => ?_)
  exact ⟨q_0, q_1⟩
set_option maxHeartbeats 4000000 in
set_option maxRecDepth 20000 in
theorem st9_image {v_rowsOf : Int32} {v_columnsOf : Int32} {v_folded : Int32} {v_wronged : Int32} {v_isKept : Bool} {v_imageRows : Int32} {v_imageColumns : Int32} {v_imageFolded : Int32} {v_imageWronged : Int32} {v_shapeRows : List Int32} {v_shapeColumns : List Int32} {v_row : List Int32} {v_column : List Int32} {v_below : List Int32} {v_face : List Int32} {v_worn : List Int32} {v_lastBend : List Int32} (g_0 : gm_sh v_rowsOf v_columnsOf v_isKept v_imageRows v_imageColumns v_shapeRows v_shapeColumns v_row v_column v_below v_face v_worn v_lastBend) : wp (fX9_image 700 v_rowsOf v_columnsOf v_folded v_wronged v_isKept v_imageRows v_imageColumns v_imageFolded v_imageWronged v_shapeRows v_shapeColumns v_row v_column v_below v_face v_worn v_lastBend) (cu14 (fun (r : Int32) (wv_isKept : Bool) (wv_imageRows : Int32) (wv_imageColumns : Int32) (wv_imageFolded : Int32) (wv_imageWronged : Int32) (wv_shapeRows : List Int32) (wv_shapeColumns : List Int32) (wv_row : List Int32) (wv_column : List Int32) (wv_below : List Int32) (wv_face : List Int32) (wv_worn : List Int32) (wv_lastBend : List Int32) => gm_sh v_rowsOf v_columnsOf wv_isKept wv_imageRows wv_imageColumns wv_shapeRows wv_shapeColumns wv_row wv_column wv_below wv_face wv_worn wv_lastBend)) := by
  obtain ⟨a_0_0, a_0_1, a_0_2, a_0_3, a_0_4, a_0_5, a_0_6, a_0_7, a_0_8, a_0_9, a_0_10, a_0_11, a_0_12, a_0_13⟩ := id g_0
  have n0 : (0 : Int32).toInt = 0 := by decide
  have n1 : (1 : Int32).toInt = 1 := by decide
  have n5 : (5 : Int32).toInt = 5 := by decide
  refine wp_cu14 (sf_X9_image (u_row := v_row) (u_col := v_column) (u_sR := v_shapeRows) (u_sC := v_shapeColumns) (A := 160) (B9 := 192) (a9 := 5) (b9 := 6) (Nat.le_refl 700) a_0_0 a_0_1 a_0_2 a_0_3 a_0_4 a_0_5 a_0_6 a_0_7 a_0_8 a_0_9 a_0_10 a_0_11 (fr_refl _ _ _) (fr_refl _ _ _) (fr_refl _ _ _) (fr_refl _ _ _) (by omega) (by omega) (by omega) (by omega) a_0_12) (fun r wv_isKept wv_imageRows wv_imageColumns wv_imageFolded wv_imageWronged wv_shapeRows wv_shapeColumns wv_row wv_column wv_below wv_face wv_worn wv_lastBend ⟨q_0, q_1, q_2, q_3, q_4, q_5, q_6, q_7, q_8, q_9, q_10, q_11, q_12, q_13, q_14, q_15, q_16⟩ => ?_)
  have l_0 : lv9 v_rowsOf v_columnsOf wv_shapeRows wv_shapeColumns wv_row wv_column (0 : Int32) := lv9_fr a_0_12 q_10 q_11 q_8 q_9 (by omega) (by omega) (by omega) (by omega) (i_fl a_0_0 a_0_1 a_0_2 a_0_3).2.2
  exact ⟨a_0_0, a_0_1, a_0_2, a_0_3, q_0, q_1, q_2, q_3, q_4, q_5, q_6, q_7, l_0, (fun _ => ⟨q_13, q_14, q_15, q_16, q_12⟩)⟩
set_option maxHeartbeats 4000000 in
set_option maxRecDepth 20000 in
theorem st9_back {v_rowsOf : Int32} {v_columnsOf : Int32} {v_folded : Int32} {v_wronged : Int32} {v_isKept : Bool} {v_imageRows : Int32} {v_imageColumns : Int32} {v_imageFolded : Int32} {v_imageWronged : Int32} {v_shapeRows : List Int32} {v_shapeColumns : List Int32} {v_row : List Int32} {v_column : List Int32} {v_below : List Int32} {v_face : List Int32} {v_worn : List Int32} {v_lastBend : List Int32} (g_0 : gm_sh v_rowsOf v_columnsOf v_isKept v_imageRows v_imageColumns v_shapeRows v_shapeColumns v_row v_column v_below v_face v_worn v_lastBend) : wp (fX9_back 700 v_rowsOf v_columnsOf v_folded v_wronged v_isKept v_imageRows v_imageColumns v_imageFolded v_imageWronged v_shapeRows v_shapeColumns v_row v_column v_below v_face v_worn v_lastBend) (cu13 (fun (r : Int32) (wv_rowsOf : Int32) (wv_columnsOf : Int32) (wv_folded : Int32) (wv_wronged : Int32) (wv_shapeRows : List Int32) (wv_shapeColumns : List Int32) (wv_row : List Int32) (wv_column : List Int32) (wv_below : List Int32) (wv_face : List Int32) (wv_worn : List Int32) (wv_lastBend : List Int32) => gm_sh wv_rowsOf wv_columnsOf v_isKept v_imageRows v_imageColumns wv_shapeRows wv_shapeColumns wv_row wv_column wv_below wv_face wv_worn wv_lastBend)) := by
  obtain ⟨a_0_0, a_0_1, a_0_2, a_0_3, a_0_4, a_0_5, a_0_6, a_0_7, a_0_8, a_0_9, a_0_10, a_0_11, a_0_12, a_0_13⟩ := id g_0
  have n0 : (0 : Int32).toInt = 0 := by decide
  have n1 : (1 : Int32).toInt = 1 := by decide
  have n5 : (5 : Int32).toInt = 5 := by decide
  by_cases hK : v_isKept = false
  · subst hK
    exact wp_of (bk_f _ _ _ _ _ _ _ _ _ _ _ _ _ _ _ _ _) (wp_so13 g_0)
  · obtain ⟨k_0, k_1, k_2, k_3, k_4⟩ := a_0_13 hK
    refine wp_cu13 (sf_X9_back (u_row := v_row) (u_col := v_column) (u_sR := v_shapeRows) (u_sC := v_shapeColumns) (A := 0) (B9 := 32) (a9 := 0) (b9 := 1) (Nat.le_refl 700) a_0_0 a_0_1 a_0_2 a_0_3 a_0_4 a_0_5 a_0_6 a_0_7 a_0_8 a_0_9 a_0_10 a_0_11 (fr_refl _ _ _) (fr_refl _ _ _) (fr_refl _ _ _) (fr_refl _ _ _) (by omega) (by omega) (by omega) (by omega) hK k_0 k_1 k_2 k_3 k_4) (fun r wv_rowsOf wv_columnsOf wv_folded wv_wronged wv_shapeRows wv_shapeColumns wv_row wv_column wv_below wv_face wv_worn wv_lastBend ⟨q_0, q_1, q_2, q_3, q_4, q_5, q_6, q_7, q_8, q_9, q_10, q_11, q_12, q_13, q_14, q_15, q_16⟩ => ?_)
    have l_5 : ¬ (v_isKept = false) → 1 ≤ v_imageRows.toInt ∧ v_imageRows.toInt ≤ 4 ∧ 1 ≤ v_imageColumns.toInt ∧ v_imageColumns.toInt ≤ 8 ∧ lv9 v_imageRows v_imageColumns wv_shapeRows wv_shapeColumns wv_row wv_column (5 : Int32) := fun hk => (by
      obtain ⟨j_0, j_1, j_2, j_3, j_4⟩ := a_0_13 hk
      exact ⟨j_0, j_1, j_2, j_3, lv9_fr j_4 q_14 q_15 q_12 q_13 (by omega) (by omega) (by omega) (by omega) (i_fl j_0 j_1 j_2 j_3).2.2⟩)
    exact ⟨q_0, q_1, q_2, q_3, q_4, q_5, q_6, q_7, q_8, q_9, q_10, q_11, q_16, l_5⟩
set_option maxHeartbeats 4000000 in
set_option maxRecDepth 20000 in
theorem st9_undo {v_done : Int32} {v_limit : List Int32} {v_changeWas : List Int32} {v_keptMany : Int32} {v_changeIs : List Int32} (g_0 : gm_ch v_keptMany v_done v_limit v_changeWas v_changeIs) : wp (fX9_undo 700 v_done v_limit v_changeWas) (cu3 (fun (r : Int32) (wv_done : Int32) (wv_limit : List Int32) => gm_ch v_keptMany wv_done wv_limit v_changeWas v_changeIs)) := by
  obtain ⟨a_0_0, a_0_1, a_0_2, a_0_3, a_0_4, a_0_5, a_0_6, a_0_7⟩ := id g_0
  refine wp_cu3 (sf_X9_undo (Nat.le_refl 700) a_0_2 a_0_3 a_0_4 a_0_5) (fun r wv_done wv_limit ⟨q_0, q_1, q_2, q_3⟩ => ?_)
  exact ⟨a_0_0, a_0_1, q_0, q_1, q_2, a_0_5, a_0_6, (by omega)⟩
set_option maxHeartbeats 4000000 in
set_option maxRecDepth 20000 in
theorem st9_redo {v_keptMany : Int32} {v_done : Int32} {v_limit : List Int32} {v_changeIs : List Int32} {v_changeWas : List Int32} (g_0 : gm_ch v_keptMany v_done v_limit v_changeWas v_changeIs) : wp (fX9_redo 700 v_keptMany v_done v_limit v_changeIs) (cu3 (fun (r : Int32) (wv_done : Int32) (wv_limit : List Int32) => gm_ch v_keptMany wv_done wv_limit v_changeWas v_changeIs)) := by
  obtain ⟨a_0_0, a_0_1, a_0_2, a_0_3, a_0_4, a_0_5, a_0_6, a_0_7⟩ := id g_0
  refine wp_cu3 (sf_X9_redo (Nat.le_refl 700) a_0_0 a_0_1 a_0_2 a_0_3 a_0_4 a_0_6 a_0_7) (fun r wv_done wv_limit ⟨q_0, q_1, q_2, q_3⟩ => ?_)
  exact ⟨a_0_0, a_0_1, q_0, q_1, q_2, a_0_5, a_0_6, q_3⟩
set_option maxHeartbeats 4000000 in
set_option maxRecDepth 20000 in
theorem st9_body {x1 : Int32} {v_bodies : Int32} {v_bodyKind : List Int32} {v_trace : List Int32} (g_0 : gm_bo v_bodies v_bodyKind v_trace) : wp (fX9_body 700 x1 v_bodies v_bodyKind) (cu3 (fun (r : Int32) (wv_bodies : Int32) (wv_bodyKind : List Int32) => gm_bo wv_bodies wv_bodyKind v_trace)) := by
  obtain ⟨a_0_0, a_0_1, a_0_2, a_0_3, a_0_4⟩ := id g_0
  refine wp_cu3 (sfb_X9_body a_0_0 a_0_1 a_0_2 a_0_4) (fun r wv_bodies wv_bodyKind ⟨q_0, q_1, q_2, q_3⟩ => ?_)
  exact ⟨q_0, q_1, q_2, a_0_3, q_3⟩
set_option maxHeartbeats 4000000 in
set_option maxRecDepth 20000 in
theorem st9_trace {x1 : Int32} {v_ran : Int32} {v_trace : List Int32} {v_bodies : Int32} {v_bodyKind : List Int32} (g_0 : gm_bo v_bodies v_bodyKind v_trace) : wp (fX9_trace 700 x1 v_ran v_trace) (fun (r : Int32) => True) := by
  obtain ⟨a_0_0, a_0_1, a_0_2, a_0_3, a_0_4⟩ := id g_0
  refine wp_cu1 (sf_X9_trace (Nat.le_refl 700) a_0_3) (fun r _ => ?_)
  exact trivial
set_option maxHeartbeats 4000000 in
set_option maxRecDepth 20000 in
theorem st9_keep {x1 : Int32} {x2 : Int32} {v_bodies : Int32} {v_shelf : List Int32} {v_many : List Int32} {v_bodyKind : List Int32} {v_trace : List Int32} {v_items : List Int64} {v_carried : List Int64} (g_0 : gm_bo v_bodies v_bodyKind v_trace) (g_1 : gm_sf v_shelf v_many v_items v_carried) : wp (fX9_keep 700 x1 x2 v_bodies v_shelf v_many) (cu3 (fun (r : Int32) (wv_shelf : List Int32) (wv_many : List Int32) => gm_sf wv_shelf wv_many v_items v_carried)) := by
  obtain ⟨a_0_0, a_0_1, a_0_2, a_0_3, a_0_4⟩ := id g_0
  obtain ⟨a_1_0, a_1_1, a_1_2, a_1_3, a_1_4⟩ := id g_1
  refine wp_cu3 (sf_X9_keep (Nat.le_refl 700) a_0_0 a_0_1 a_1_0 a_1_1 a_1_4) (fun r wv_shelf wv_many ⟨q_0, q_1, q_2⟩ => ?_)
  exact ⟨q_0, q_1, a_1_2, a_1_3, q_2⟩
set_option maxHeartbeats 4000000 in
set_option maxRecDepth 20000 in
theorem st9_row {x1 : Int32} {x2 : Int32} {x3 : Int32} {v_shelf : List Int32} {v_many : List Int32} {v_items : List Int64} {v_carried : List Int64} (g_0 : gm_sf v_shelf v_many v_items v_carried) : wp (fX9_row 700 x1 x2 x3 v_shelf v_many v_items) (cu4 (fun (r : Int32) (wv_shelf : List Int32) (wv_many : List Int32) (wv_items : List Int64) => gm_sf wv_shelf wv_many wv_items v_carried)) := by
  obtain ⟨a_0_0, a_0_1, a_0_2, a_0_3, a_0_4⟩ := id g_0
  refine wp_cu4 (sf_X9_row (Nat.le_refl 700) a_0_0 a_0_1 a_0_2 a_0_4) (fun r wv_shelf wv_many wv_items ⟨q_0, q_1, q_2, q_3⟩ => ?_)
  exact ⟨q_0, q_1, q_2, a_0_3, q_3⟩
set_option maxHeartbeats 4000000 in
set_option maxRecDepth 20000 in
theorem st9_put {x1 : Int32} {x2 : Int32} {x3 : Int64} {v_shelf : List Int32} {v_many : List Int32} {v_items : List Int64} {v_carried : List Int64} (g_0 : gm_sf v_shelf v_many v_items v_carried) : wp (fX9_put 700 x1 x2 x3 v_shelf v_many v_items) (cu2 (fun (r : Int32) (wv_items : List Int64) => gm_sf v_shelf v_many wv_items v_carried)) := by
  obtain ⟨a_0_0, a_0_1, a_0_2, a_0_3, a_0_4⟩ := id g_0
  refine wp_cu2 (sf_X9_put (Nat.le_refl 700) a_0_0 a_0_1 a_0_2 a_0_4) (fun r wv_items q_0 => ?_)
  exact ⟨a_0_0, a_0_1, q_0, a_0_3, a_0_4⟩
set_option maxHeartbeats 4000000 in
set_option maxRecDepth 20000 in
theorem st9_element {x1 : Int32} {x2 : Int32} {v_shelf : List Int32} {v_many : List Int32} {v_items : List Int64} {v_carried : List Int64} (g_0 : gm_sf v_shelf v_many v_items v_carried) : wp (fX9_element 700 x1 x2 v_shelf v_many v_items) (fun (r : Int64) => True) := by
  obtain ⟨a_0_0, a_0_1, a_0_2, a_0_3, a_0_4⟩ := id g_0
  refine wp_cu1 (sf_X9_element (Nat.le_refl 700) a_0_0 a_0_1 a_0_2 a_0_4) (fun r _ => ?_)
  exact trivial
set_option maxHeartbeats 4000000 in
set_option maxRecDepth 20000 in
theorem st9_shift {x1 : Int32} {x2 : Int32} {x3 : Int32} {x4 : Int32} {x5 : Int32} {v_shelf : List Int32} {v_many : List Int32} {v_items : List Int64} {v_carried : List Int64} (g_0 : gm_sf v_shelf v_many v_items v_carried) : wp (fX9_shift 700 x1 x2 x3 x4 x5 v_shelf v_many v_items v_carried) (cu3 (fun (r : Int32) (wv_items : List Int64) (wv_carried : List Int64) => gm_sf v_shelf v_many wv_items wv_carried)) := by
  obtain ⟨a_0_0, a_0_1, a_0_2, a_0_3, a_0_4⟩ := id g_0
  refine wp_cu3 (sf_X9_shift (Nat.le_refl 700) a_0_0 a_0_1 a_0_2 a_0_3 a_0_4) (fun r wv_items wv_carried ⟨q_0, q_1⟩ => ?_)
  exact ⟨a_0_0, a_0_1, q_0, q_1, a_0_4⟩
set_option maxHeartbeats 4000000 in
set_option maxRecDepth 20000 in
theorem st9_taken {x1 : Int32} {x2 : Int32} {v_bodyKind : List Int32} {v_shelf : List Int32} {v_bodies : Int32} {v_trace : List Int32} {v_many : List Int32} {v_items : List Int64} {v_carried : List Int64} (g_0 : gm_bo v_bodies v_bodyKind v_trace) (g_1 : gm_sf v_shelf v_many v_items v_carried) : wp (fX9_taken 700 x1 x2 v_bodyKind v_shelf) (fun (r : Int32) => True) := by
  obtain ⟨a_0_0, a_0_1, a_0_2, a_0_3, a_0_4⟩ := id g_0
  obtain ⟨a_1_0, a_1_1, a_1_2, a_1_3, a_1_4⟩ := id g_1
  refine wp_cu1 (sf_X9_taken (Nat.le_refl 700) a_0_2 a_1_0) (fun r _ => ?_)
  exact trivial
set_option maxHeartbeats 4000000 in
set_option maxRecDepth 20000 in
theorem st9_count {x1 : Int32} {v_done : Int32} {v_rowsOf : Int32} {v_columnsOf : Int32} {v_tapeMany : Int32} {v_planned : Int32} {v_bodies : Int32} {v_ran : Int32} {v_keptMany : Int32} {v_limit : List Int32} {v_changeWas : List Int32} {v_changeIs : List Int32} {v_isKept : Bool} {v_imageRows : Int32} {v_imageColumns : Int32} {v_shapeRows : List Int32} {v_shapeColumns : List Int32} {v_row : List Int32} {v_column : List Int32} {v_below : List Int32} {v_face : List Int32} {v_worn : List Int32} {v_lastBend : List Int32} {v_textMany : Int32} {v_tape : List Int32} {v_text : List Int32} {v_names : List Int32} {v_bends : List Int32} {v_high : List Int32} {v_to : List Int32} {v_pileSize : List Int32} {v_planLine : List Int32} {v_planWay : List Int32} {v_bodyKind : List Int32} {v_trace : List Int32} (g_0 : gm_ch v_keptMany v_done v_limit v_changeWas v_changeIs) (g_1 : gm_sh v_rowsOf v_columnsOf v_isKept v_imageRows v_imageColumns v_shapeRows v_shapeColumns v_row v_column v_below v_face v_worn v_lastBend) (g_2 : gm_tx v_tapeMany v_textMany v_tape v_text v_names v_bends v_high v_to v_pileSize) (g_3 : gm_pl v_planned v_planLine v_planWay) (g_4 : gm_bo v_bodies v_bodyKind v_trace) : wp (fX9_count 700 x1 v_done v_rowsOf v_columnsOf v_tapeMany v_planned v_bodies v_ran) (fun (r : Int32) => True) := by
  obtain ⟨a_0_0, a_0_1, a_0_2, a_0_3, a_0_4, a_0_5, a_0_6, a_0_7⟩ := id g_0
  obtain ⟨a_1_0, a_1_1, a_1_2, a_1_3, a_1_4, a_1_5, a_1_6, a_1_7, a_1_8, a_1_9, a_1_10, a_1_11, a_1_12, a_1_13⟩ := id g_1
  obtain ⟨a_2_0, a_2_1, a_2_2, a_2_3, a_2_4, a_2_5, a_2_6, a_2_7, a_2_8, a_2_9, a_2_10⟩ := id g_2
  obtain ⟨a_3_0, a_3_1, a_3_2, a_3_3⟩ := id g_3
  obtain ⟨a_4_0, a_4_1, a_4_2, a_4_3, a_4_4⟩ := id g_4
  refine wp_cu1 (sf_X9_count (Nat.le_refl 700) a_0_2 a_0_3 a_1_0 a_1_1 a_1_2 a_1_3 a_2_0 a_2_1 a_3_0 a_3_1 a_4_0 a_4_1) (fun r _ => ?_)
  exact trivial
