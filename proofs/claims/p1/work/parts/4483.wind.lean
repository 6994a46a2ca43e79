/-! wind -/
theorem wd_0 (x : Int32) : (0 : Int32) / x = 0 := by
  rw [← Int32.toInt_inj, Int32.toInt_div]
  have e : (0 : Int32).toInt = 0 := by decide
  rw [e, Int.zero_tdiv]
  rfl
theorem wd_nz (x : Int32) (h : 1 ≤ x.toInt) : mm_nz x = true := by
  unfold mm_nz
  exact decide_eq_true (rg_qn (b := 0) (by decide) (by omega))
theorem wd_1 (x : Int32) (h0 : 0 ≤ x.toInt) (h1 : x.toInt < 1000) : (x + 1).toInt = x.toInt + 1 := by
  rw [Int32.toInt_add]
  have e : (1 : Int32).toInt = 1 := by decide
  rw [e, Int.bmod_eq_of_le (by omega) (by omega)]
set_option maxHeartbeats 8000000 in
set_option maxRecDepth 100000 in
theorem wd_t (z c : Int32) : fX3_tryInWind 700 20 z c 0 2 4 2 4 0 0 0 z5_rowOf z5_colOf (mm_zs 32) (mm_zs 32) (mm_zs 64) (mm_zs 64) (mm_zs 64) (mm_zs 32) (mm_zs 12) (mm_zs 12) 2 4 2 4 0 0 0 z5_rowOf z5_colOf (mm_zs 32) (mm_zs 32) (mm_zs 64) (mm_zs 64) 0 0 (mm_zs 121) (mm_zs 121) = some (z, 2, 4, 2, 4, 0, 0, 0, z5_rowOf, z5_colOf, (mm_zs 32), (mm_zs 32), (mm_zs 64), (mm_zs 64), (mm_zs 64), (mm_zs 32), 0, mm_zs 121) := by
  unfold fX3_tryInWind
  rw [pl_b]
  rfl
set_option maxHeartbeats 8000000 in
set_option maxRecDepth 100000 in
theorem wd_8 (x3 x4 c z : Int32) (h4 : 1 ≤ x4.toInt) (h4' : x4.toInt < 1000) : ∀ (d n : Nat) (x8 : Int32), d < n → x8.toInt = x4.toInt - d → 0 ≤ x8.toInt → ∃ o, fX8_wind_54 700 n x3 x4 c z 0 x8 2 4 2 4 0 0 0 z5_rowOf z5_colOf (mm_zs 32) (mm_zs 32) (mm_zs 64) (mm_zs 64) 0 0 (mm_zs 121) (mm_zs 121) 0 2 4 2 4 0 0 0 z5_rowOf z5_colOf (mm_zs 32) (mm_zs 32) (mm_zs 64) (mm_zs 64) (mm_zs 64) (mm_zs 32) (mm_zs 12) (mm_zs 12) 20 = some (0, o) := by
  intro d
  induction d with
  | zero =>
    intro n x8 hn he h0
    cases n with
    | zero => omega
    | succ n =>
      rw [fX8_wind_54]
      dsimp only
      rw [if_pos (Int32.le_iff_toInt_le.mpr (by omega)), wd_nz x4 h4, wd_0]
      exact ⟨_, rfl⟩
  | succ d ih =>
    intro n x8 hn he h0
    cases n with
    | zero => omega
    | succ n =>
      rw [fX8_wind_54]
      dsimp only
      rw [if_neg (fun k => by have := Int32.le_iff_toInt_le.mp k; omega), wd_t]
      have k := wd_1 x8 h0 (by omega)
      obtain ⟨o, ho⟩ := ih n (x8 + 1) (by omega) (by omega) (by omega)
      refine ⟨o, ?_⟩
      by_cases c3 : x3 = 0
      · show (if x3 = 0 then fX8_wind_54 700 n x3 x4 c z (0 + 0) (x8 + 1) 2 4 2 4 0 0 0 z5_rowOf z5_colOf (mm_zs 32) (mm_zs 32) (mm_zs 64) (mm_zs 64) 0 0 (mm_zs 121) (mm_zs 121) 0 2 4 2 4 0 0 0 z5_rowOf z5_colOf (mm_zs 32) (mm_zs 32) (mm_zs 64) (mm_zs 64) (mm_zs 64) (mm_zs 32) (mm_zs 12) (mm_zs 12) 20 else _) = _
        rw [if_pos c3]; exact ho
      · show (if x3 = 0 then _ else fX8_wind_54 700 n x3 x4 c z (0 + 0) (x8 + 1) 2 4 2 4 0 0 0 z5_rowOf z5_colOf (mm_zs 32) (mm_zs 32) (mm_zs 64) (mm_zs 64) 0 0 (mm_zs 121) (mm_zs 121) 0 2 4 2 4 0 0 0 z5_rowOf z5_colOf (mm_zs 32) (mm_zs 32) (mm_zs 64) (mm_zs 64) (mm_zs 64) (mm_zs 32) (mm_zs 12) (mm_zs 12) 20) = _
        rw [if_neg c3]; exact ho
set_option maxHeartbeats 8000000 in
set_option maxRecDepth 100000 in
theorem wd_9 (x2 x3 z : Int32) (h4 : 1 ≤ (x2 / 1000).toInt) (h4' : (x2 / 1000).toInt < 1000) : ∀ (d n : Nat) (x5 : Int32), d < n → x5.toInt = (x2 / 1000).toInt - d → 0 ≤ x5.toInt → ∃ o, fX9_wind_53 700 n x2 x3 0 x5 2 4 (-1) 0 0 0 0 0 0 0 0 0 0 0 z z9_limit g9_shapeRows g9_shapeColumns g9_row g9_column (mm_zs 192) (mm_zs 192) (mm_zs 384) (mm_zs 384) (mm_zs 120) (mm_zs 120) (mm_zs 6) (mm_zs 64) (mm_zs 32) (mm_zs 32) (mm_zs 64) (mm_zs 12) (mm_zs 12) = some (0, o) := by
  intro d
  induction d with
  | zero =>
    intro n x8 hn he h0
    cases n with
    | zero => omega
    | succ n =>
      rw [fX9_wind_53]
      dsimp only
      rw [if_pos (Int32.le_iff_toInt_le.mpr (by omega)), wd_nz (x2 / 1000) h4, wd_0]
      exact ⟨_, rfl⟩
  | succ d ih =>
    intro n x5 hn he h0
    cases n with
    | zero => omega
    | succ n =>
      rw [fX9_wind_53]
      dsimp only
      rw [if_neg (fun k => by have := Int32.le_iff_toInt_le.mp k; omega), pl_g2]
      have k := wd_1 x5 h0 (by omega)
      obtain ⟨o, ho⟩ := ih n (x5 + 1) (by omega) (by omega) (by omega)
      refine ⟨o, ?_⟩
      by_cases c3 : x3 = 0
      · show (if x3 = 0 then fX9_wind_53 700 n x2 x3 (0 + 0) (x5 + 1) 2 4 (-1) 0 0 0 0 0 0 0 0 0 0 0 z z9_limit g9_shapeRows g9_shapeColumns g9_row g9_column (mm_zs 192) (mm_zs 192) (mm_zs 384) (mm_zs 384) (mm_zs 120) (mm_zs 120) (mm_zs 6) (mm_zs 64) (mm_zs 32) (mm_zs 32) (mm_zs 64) (mm_zs 12) (mm_zs 12) else _) = _
        rw [if_pos c3]; exact ho
      · show (if x3 = 0 then _ else fX9_wind_53 700 n x2 x3 (0 + 0) (x5 + 1) 2 4 (-1) 0 0 0 0 0 0 0 0 0 0 0 z z9_limit g9_shapeRows g9_shapeColumns g9_row g9_column (mm_zs 192) (mm_zs 192) (mm_zs 384) (mm_zs 384) (mm_zs 120) (mm_zs 120) (mm_zs 6) (mm_zs 64) (mm_zs 32) (mm_zs 32) (mm_zs 64) (mm_zs 12) (mm_zs 12)) = _
        rw [if_neg c3]; exact ho
set_option maxHeartbeats 8000000 in
set_option maxRecDepth 100000 in
theorem wd_9f (x2 x3 z : Int32) (h4 : 1 ≤ (x2 / 1000).toInt) (h4' : (x2 / 1000).toInt ≤ 20) : ∃ o, fX9_wind_53 700 700 x2 x3 0 0 2 4 (-1) 0 0 0 0 0 0 0 0 0 0 0 z z9_limit z9_shapeRows z9_shapeColumns z9_row z9_column (mm_zs 192) (mm_zs 192) (mm_zs 384) (mm_zs 384) (mm_zs 120) (mm_zs 120) (mm_zs 6) (mm_zs 64) (mm_zs 32) (mm_zs 32) (mm_zs 64) (mm_zs 12) (mm_zs 12) = some (0, o) := by
  have t0 : (0 : Int32).toInt = 0 := by decide
  have t1 : (1 : Int32).toInt = 1 := by decide
  show ∃ o, fX9_wind_53 700 (699 + 1) x2 x3 0 0 2 4 (-1) 0 0 0 0 0 0 0 0 0 0 0 z z9_limit z9_shapeRows z9_shapeColumns z9_row z9_column (mm_zs 192) (mm_zs 192) (mm_zs 384) (mm_zs 384) (mm_zs 120) (mm_zs 120) (mm_zs 6) (mm_zs 64) (mm_zs 32) (mm_zs 32) (mm_zs 64) (mm_zs 12) (mm_zs 12) = some (0, o)
  rw [fX9_wind_53]
  dsimp only
  rw [if_neg (fun k => by have := Int32.le_iff_toInt_le.mp k; omega), pl_g1]
  obtain ⟨o, ho⟩ := wd_9 x2 x3 z h4 (by omega) ((x2 / 1000).toInt - 1).toNat 699 1 (by omega) (by omega) (by omega)
  refine ⟨o, ?_⟩
  by_cases c3 : x3 = 0
  · show (if x3 = 0 then fX9_wind_53 700 699 x2 x3 (0 + 0) (0 + 1) 2 4 (-1) 0 0 0 0 0 0 0 0 0 0 0 z z9_limit g9_shapeRows g9_shapeColumns g9_row g9_column (mm_zs 192) (mm_zs 192) (mm_zs 384) (mm_zs 384) (mm_zs 120) (mm_zs 120) (mm_zs 6) (mm_zs 64) (mm_zs 32) (mm_zs 32) (mm_zs 64) (mm_zs 12) (mm_zs 12) else _) = _
    rw [if_pos c3]; exact ho
  · show (if x3 = 0 then _ else fX9_wind_53 700 699 x2 x3 (0 + 0) (0 + 1) 2 4 (-1) 0 0 0 0 0 0 0 0 0 0 0 z z9_limit g9_shapeRows g9_shapeColumns g9_row g9_column (mm_zs 192) (mm_zs 192) (mm_zs 384) (mm_zs 384) (mm_zs 120) (mm_zs 120) (mm_zs 6) (mm_zs 64) (mm_zs 32) (mm_zs 32) (mm_zs 64) (mm_zs 12) (mm_zs 12)) = _
    rw [if_neg c3]; exact ho
set_option maxHeartbeats 8000000 in
set_option maxRecDepth 100000 in
theorem kk_19 (y1 : Int32) (y2 : Int32) (y3 : Int32) : mm_same (fX8_wind 700 y1 y2 y3 2 4 2 4 0 0 0 z5_rowOf z5_colOf (mm_zs 32) (mm_zs 32) (mm_zs 64) (mm_zs 64) 0 0 (mm_zs 121) (mm_zs 121) 0 2 4 2 4 0 0 0 z5_rowOf z5_colOf (mm_zs 32) (mm_zs 32) (mm_zs 64) (mm_zs 64) (mm_zs 64) (mm_zs 32) (mm_zs 12) (mm_zs 12) 20) (fX9_wind 700 y1 y2 y3 2 4 (-1) 0 0 0 0 0 0 0 0 0 0 0 0 z9_limit z9_shapeRows z9_shapeColumns z9_row z9_column (mm_zs 192) (mm_zs 192) (mm_zs 384) (mm_zs 384) (mm_zs 120) (mm_zs 120) (mm_zs 6) (mm_zs 64) (mm_zs 32) (mm_zs 32) (mm_zs 64) (mm_zs 12) (mm_zs 12)) = true := by
  have d := rg_d1000 y2
  have kd := Int.mul_tdiv_add_tmod y2.toInt 1000
  have b1 : y2.toInt.tmod 1000 < 1000 := Int.tmod_lt_of_pos _ (by decide)
  have b1' : -1000 < y2.toInt.tmod 1000 := Int.lt_tmod_of_pos _ (by decide)
  have t0 : (0 : Int32).toInt = 0 := by decide
  have e8h : fX8_wind 700 y1 y2 y3 2 4 2 4 0 0 0 z5_rowOf z5_colOf (mm_zs 32) (mm_zs 32) (mm_zs 64) (mm_zs 64) 0 0 (mm_zs 121) (mm_zs 121) 0 2 4 2 4 0 0 0 z5_rowOf z5_colOf (mm_zs 32) (mm_zs 32) (mm_zs 64) (mm_zs 64) (mm_zs 64) (mm_zs 32) (mm_zs 12) (mm_zs 12) 20 = (if y2 / 1000 < 1 then _ else if 20 < y2 / 1000 then _ else if 100 < mm_rem y2 1000 then _ else if y3 < 0 then _ else if y3 ≤ 1 then fX8_wind_54 700 700 y3 (y2 / 1000) (mm_rem y2 1000) y1 0 0 2 4 2 4 0 0 0 z5_rowOf z5_colOf (mm_zs 32) (mm_zs 32) (mm_zs 64) (mm_zs 64) 0 0 (mm_zs 121) (mm_zs 121) 0 2 4 2 4 0 0 0 z5_rowOf z5_colOf (mm_zs 32) (mm_zs 32) (mm_zs 64) (mm_zs 64) (mm_zs 64) (mm_zs 32) (mm_zs 12) (mm_zs 12) 20 else _) := rfl
  rw [e8h]
  by_cases k : y2.toInt < 0
  · unfold fX9_wind
    rw [if_pos (rg_p (x := y2) (b := 0) (by decide) k), if_pos (rg_p (b := 1) (by decide) (by omega))]
    rfl
  have b2 : 0 ≤ y2.toInt.tmod 1000 := Int.tmod_nonneg 1000 (by omega)
  unfold fX9_wind
  rw [if_neg (rg_n (x := y2) (b := 0) (by decide) (by omega))]
  by_cases k1 : (y2 / 1000).toInt < 1
  · rw [if_pos (rg_p (b := 1) (by decide) k1), rg_wf 700 (y2 / 1000) (a := 1) (b := 20) (by decide) (by decide) (.inl k1)]
    rfl
  rw [if_neg (rg_n (x := y2 / 1000) (b := 1) (by decide) (by omega))]
  by_cases k2 : 20 < (y2 / 1000).toInt
  · rw [if_pos (rg_lp (b := 20) (by decide) k2), rg_wf 700 (y2 / 1000) (a := 1) (b := 20) (by decide) (by decide) (.inr k2)]
    rfl
  rw [if_neg (rg_ln (x := y2 / 1000) (b := 20) (by decide) (by omega)), rg_wt 700 (y2 / 1000) (a := 1) (b := 20) (by decide) (by decide) (by omega) (by omega)]
  by_cases k3 : 100 < mm_rem y2 1000
  · rw [if_pos k3, if_pos k3]
    rfl
  rw [if_neg k3, if_neg k3]
  by_cases k4 : y3.toInt < 0
  · rw [if_pos (rg_p (x := y3) (b := 0) (by decide) k4), rg_wf 700 y3 (a := 0) (b := 1) (by decide) (by decide) (.inl k4)]
    rfl
  rw [if_neg (rg_n (x := y3) (b := 0) (by decide) (by omega))]
  by_cases k5 : 1 < y3.toInt
  · rw [if_neg (rg_en (x := y3) (b := 1) (by decide) k5), rg_wf 700 y3 (a := 0) (b := 1) (by decide) (by decide) (.inr k5)]
    rfl
  rw [if_pos (rg_ep (x := y3) (b := 1) (by decide) (by omega)), rg_wt 700 y3 (a := 0) (b := 1) (by decide) (by decide) (by omega) (by omega)]
  obtain ⟨o8, h8⟩ := wd_8 y3 (y2 / 1000) (mm_rem y2 1000) y1 (by omega) (by omega) (y2 / 1000).toInt.toNat 700 0 (by omega) (by omega) (by omega)
  obtain ⟨o9, h9⟩ := wd_9f y2 y3 y1 (by omega) (by omega)
  rw [h8]
  show mm_same _ (fX9_wind_53 700 700 y2 y3 0 0 2 4 (-1) 0 0 0 0 0 0 0 0 0 0 0 y1 z9_limit z9_shapeRows z9_shapeColumns z9_row z9_column (mm_zs 192) (mm_zs 192) (mm_zs 384) (mm_zs 384) (mm_zs 120) (mm_zs 120) (mm_zs 6) (mm_zs 64) (mm_zs 32) (mm_zs 32) (mm_zs 64) (mm_zs 12) (mm_zs 12)) = true
  rw [h9]
  rfl
set_option maxHeartbeats 8000000 in
set_option maxRecDepth 100000 in
theorem pp_19 (y1 : Int32) (y2 : Int32) (y3 : Int32) : ∃ (r : Int32) (p_wearing_stacked : Int32) (p_wearing_stack : List Int32) (p_planned_trial_rows : Int32) (p_planned_trial_cols : Int32) (p_planned_trial_high : Int32) (p_planned_trial_wide : Int32) (p_planned_trial_folds : Int32) (p_planned_trial_wrong : Int32) (p_planned_trial_more : Int32) (p_planned_trial_rowOf : List Int32) (p_planned_trial_colOf : List Int32) (p_planned_trial_below : List Int32) (p_planned_trial_face : List Int32) (p_planned_trial_worn : List Int32) (p_planned_trial_last : List Int32) (p_planned_trial_bend : List Int32) (p_planned_trial_tall : List Int32) (q_base : Int32) (q_at : Int32) (q_ends : Int32) (q_fault : Int32) (q_opened : Int32) (q_bentMany : Int32) (q_bentWrong : Int32) (q_moreWorn : Int32) (q_allWrong : Int32) (q_allWorn : Int32) (q_z : Int32) (q_shapeRows : List Int32) (q_shapeColumns : List Int32) (q_row : List Int32) (q_column : List Int32) (q_below : List Int32) (q_face : List Int32) (q_worn : List Int32) (q_lastBend : List Int32) (q_names : List Int32) (q_bends : List Int32) (q_high : List Int32) (q_to : List Int32) (q_pileSize : List Int32), fX8_wind 700 y1 y2 y3 2 4 2 4 0 0 0 z5_rowOf z5_colOf (mm_zs 32) (mm_zs 32) (mm_zs 64) (mm_zs 64) 0 0 (mm_zs 121) (mm_zs 121) 0 2 4 2 4 0 0 0 z5_rowOf z5_colOf (mm_zs 32) (mm_zs 32) (mm_zs 64) (mm_zs 64) (mm_zs 64) (mm_zs 32) (mm_zs 12) (mm_zs 12) 20 = some (r, p_wearing_stacked, p_wearing_stack, p_planned_trial_rows, p_planned_trial_cols, p_planned_trial_high, p_planned_trial_wide, p_planned_trial_folds, p_planned_trial_wrong, p_planned_trial_more, p_planned_trial_rowOf, p_planned_trial_colOf, p_planned_trial_below, p_planned_trial_face, p_planned_trial_worn, p_planned_trial_last, p_planned_trial_bend, p_planned_trial_tall) ∧ fX9_wind 700 y1 y2 y3 2 4 (-1) 0 0 0 0 0 0 0 0 0 0 0 0 z9_limit z9_shapeRows z9_shapeColumns z9_row z9_column (mm_zs 192) (mm_zs 192) (mm_zs 384) (mm_zs 384) (mm_zs 120) (mm_zs 120) (mm_zs 6) (mm_zs 64) (mm_zs 32) (mm_zs 32) (mm_zs 64) (mm_zs 12) (mm_zs 12) = some (r, q_base, q_at, q_ends, q_fault, q_opened, q_bentMany, q_bentWrong, q_moreWorn, q_allWrong, q_allWorn, q_z, q_shapeRows, q_shapeColumns, q_row, q_column, q_below, q_face, q_worn, q_lastBend, q_names, q_bends, q_high, q_to, q_pileSize) := by
  obtain ⟨r, ⟨p0, p1, p2, p3, p4, p5, p6, p7, p8, p9, p10, p11, p12, p13, p14, p15, p16⟩, ⟨q0, q1, q2, q3, q4, q5, q6, q7, q8, q9, q10, q11, q12, q13, q14, q15, q16, q17, q18, q19, q20, q21, q22, q23⟩, h8, h9⟩ := mm_sames (kk_19 y1 y2 y3)
  exact ⟨r, p0, p1, p2, p3, p4, p5, p6, p7, p8, p9, p10, p11, p12, p13, p14, p15, p16, q0, q1, q2, q3, q4, q5, q6, q7, q8, q9, q10, q11, q12, q13, q14, q15, q16, q17, q18, q19, q20, q21, q22, q23, h8, h9⟩
