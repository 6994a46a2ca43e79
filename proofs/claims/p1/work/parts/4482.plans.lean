/-! lies, top, beside -/
def ck_8 (x : Option (List Int32 × List Int32 × List Int32 × List Int32 × List Int32 × List Int32 × List Int32 × List Int32)) (a0 : List Int32) (a1 : List Int32) (a2 : List Int32) (a3 : List Int32) (a4 : List Int32) (a5 : List Int32) (a6 : List Int32) (a7 : List Int32) : Bool := match x with
  | some (b0, b1, b2, b3, b4, b5, b6, b7) => decide (b0 = a0) && (decide (b1 = a1) && (decide (b2 = a2) && (decide (b3 = a3) && (decide (b4 = a4) && (decide (b5 = a5) && (decide (b6 = a6) && (decide (b7 = a7))))))))
  | none => false
theorem ck_8s {x : Option (List Int32 × List Int32 × List Int32 × List Int32 × List Int32 × List Int32 × List Int32 × List Int32)} {a0 : List Int32} {a1 : List Int32} {a2 : List Int32} {a3 : List Int32} {a4 : List Int32} {a5 : List Int32} {a6 : List Int32} {a7 : List Int32} (h : ck_8 x a0 a1 a2 a3 a4 a5 a6 a7 = true) : x = some (a0, a1, a2, a3, a4, a5, a6, a7) := by
  cases x with
  | none => cases h
  | some b =>
    obtain ⟨b0, b1, b2, b3, b4, b5, b6, b7⟩ := b
    simp only [ck_8, Bool.and_eq_true, decide_eq_true_eq] at h
    obtain ⟨h0, h1, h2, h3, h4, h5, h6, h7⟩ := h
    rw [h0, h1, h2, h3, h4, h5, h6, h7]
def ck_13 (x : Option (Int32 × Int32 × Int32 × Int32 × Int32 × Int32 × Int32 × List Int32 × List Int32 × List Int32 × List Int32 × List Int32 × List Int32)) (a0 : Int32) (a1 : Int32) (a2 : Int32) (a3 : Int32) (a4 : Int32) (a5 : Int32) (a6 : Int32) (a7 : List Int32) (a8 : List Int32) (a9 : List Int32) (a10 : List Int32) (a11 : List Int32) (a12 : List Int32) : Bool := match x with
  | some (b0, b1, b2, b3, b4, b5, b6, b7, b8, b9, b10, b11, b12) => decide (b0 = a0) && (decide (b1 = a1) && (decide (b2 = a2) && (decide (b3 = a3) && (decide (b4 = a4) && (decide (b5 = a5) && (decide (b6 = a6) && (decide (b7 = a7) && (decide (b8 = a8) && (decide (b9 = a9) && (decide (b10 = a10) && (decide (b11 = a11) && (decide (b12 = a12)))))))))))))
  | none => false
theorem ck_13s {x : Option (Int32 × Int32 × Int32 × Int32 × Int32 × Int32 × Int32 × List Int32 × List Int32 × List Int32 × List Int32 × List Int32 × List Int32)} {a0 : Int32} {a1 : Int32} {a2 : Int32} {a3 : Int32} {a4 : Int32} {a5 : Int32} {a6 : Int32} {a7 : List Int32} {a8 : List Int32} {a9 : List Int32} {a10 : List Int32} {a11 : List Int32} {a12 : List Int32} (h : ck_13 x a0 a1 a2 a3 a4 a5 a6 a7 a8 a9 a10 a11 a12 = true) : x = some (a0, a1, a2, a3, a4, a5, a6, a7, a8, a9, a10, a11, a12) := by
  cases x with
  | none => cases h
  | some b =>
    obtain ⟨b0, b1, b2, b3, b4, b5, b6, b7, b8, b9, b10, b11, b12⟩ := b
    simp only [ck_13, Bool.and_eq_true, decide_eq_true_eq] at h
    obtain ⟨h0, h1, h2, h3, h4, h5, h6, h7, h8, h9, h10, h11, h12⟩ := h
    rw [h0, h1, h2, h3, h4, h5, h6, h7, h8, h9, h10, h11, h12]
def g9_shapeRows : List Int32 := [2, 2, 0, 0, 0, 0]
def g9_shapeColumns : List Int32 := [4, 4, 0, 0, 0, 0]
def g9_row : List Int32 := [0, 0, 0, 0, 1, 1, 1, 1] ++ (mm_zs 24 ++ ([0, 0, 0, 0, 1, 1, 1, 1] ++ mm_zs 152))
def g9_column : List Int32 := [0, 1, 2, 3, 0, 1, 2, 3] ++ (mm_zs 24 ++ ([0, 1, 2, 3, 0, 1, 2, 3] ++ mm_zs 152))
set_option maxHeartbeats 8000000 in
set_option maxRecDepth 100000 in
theorem pl_s1 : fX9_startsAt 700 1 2 4 z9_shapeRows z9_shapeColumns z9_row z9_column (mm_zs 192) (mm_zs 192) (mm_zs 384) (mm_zs 384) = some (g9_shapeRows, g9_shapeColumns, g9_row, g9_column, (mm_zs 192), (mm_zs 192), (mm_zs 384), (mm_zs 384)) := ck_8s (by decide +kernel)
set_option maxHeartbeats 8000000 in
set_option maxRecDepth 100000 in
theorem pl_s2 : fX9_startsAt 700 1 2 4 g9_shapeRows g9_shapeColumns g9_row g9_column (mm_zs 192) (mm_zs 192) (mm_zs 384) (mm_zs 384) = some (g9_shapeRows, g9_shapeColumns, g9_row, g9_column, (mm_zs 192), (mm_zs 192), (mm_zs 384), (mm_zs 384)) := ck_8s (by decide +kernel)
set_option maxHeartbeats 8000000 in
set_option maxRecDepth 100000 in
theorem pl_b : fX5_beginTrial 700 2 4 2 4 0 0 0 z5_rowOf z5_colOf (mm_zs 32) (mm_zs 32) (mm_zs 64) (mm_zs 64) 2 4 2 4 0 0 0 z5_rowOf z5_colOf (mm_zs 32) (mm_zs 32) (mm_zs 64) (mm_zs 64) = some (2, 4, 2, 4, 0, 0, 0, z5_rowOf, z5_colOf, (mm_zs 32), (mm_zs 32), (mm_zs 64), (mm_zs 64)) := ck_13s (by decide +kernel)
set_option maxHeartbeats 8000000 in
set_option maxRecDepth 100000 in
theorem pl_g1 (x c z : Int32) : fX9_goesPlan 700 x c 2 4 (-1) 0 0 0 0 0 0 0 0 0 0 0 z z9_limit z9_shapeRows z9_shapeColumns z9_row z9_column (mm_zs 192) (mm_zs 192) (mm_zs 384) (mm_zs 384) (mm_zs 120) (mm_zs 120) (mm_zs 6) (mm_zs 64) (mm_zs 32) (mm_zs 32) (mm_zs 64) (mm_zs 12) (mm_zs 12) = some (0, 0, 0, 0, 0, 0, 0, 0, 0, 0, 0, z, g9_shapeRows, g9_shapeColumns, g9_row, g9_column, mm_zs 192, mm_zs 192, mm_zs 384, mm_zs 384, mm_zs 6, mm_zs 64, mm_zs 32, mm_zs 32, mm_zs 64) := by
  unfold fX9_goesPlan
  rw [pl_s1]
  rfl
set_option maxHeartbeats 8000000 in
set_option maxRecDepth 100000 in
theorem pl_g2 (x c z : Int32) : fX9_goesPlan 700 x c 2 4 (-1) 0 0 0 0 0 0 0 0 0 0 0 z z9_limit g9_shapeRows g9_shapeColumns g9_row g9_column (mm_zs 192) (mm_zs 192) (mm_zs 384) (mm_zs 384) (mm_zs 120) (mm_zs 120) (mm_zs 6) (mm_zs 64) (mm_zs 32) (mm_zs 32) (mm_zs 64) (mm_zs 12) (mm_zs 12) = some (0, 0, 0, 0, 0, 0, 0, 0, 0, 0, 0, z, g9_shapeRows, g9_shapeColumns, g9_row, g9_column, mm_zs 192, mm_zs 192, mm_zs 384, mm_zs 384, mm_zs 6, mm_zs 64, mm_zs 32, mm_zs 32, mm_zs 64) := by
  unfold fX9_goesPlan
  rw [pl_s2]
  rfl
set_option maxHeartbeats 8000000 in
set_option maxRecDepth 100000 in
theorem pl_t (x : Int32) (h : 0 ≤ x.toInt) : fX3_tryFirst 700 x 20 0 2 4 2 4 0 0 0 z5_rowOf z5_colOf (mm_zs 32) (mm_zs 32) (mm_zs 64) (mm_zs 64) (mm_zs 64) (mm_zs 32) (mm_zs 12) (mm_zs 12) 2 4 2 4 0 0 0 z5_rowOf z5_colOf (mm_zs 32) (mm_zs 32) (mm_zs 64) (mm_zs 64) 0 0 (mm_zs 121) (mm_zs 121) = some (0, 2, 4, 2, 4, 0, 0, 0, z5_rowOf, z5_colOf, (mm_zs 32), (mm_zs 32), (mm_zs 64), (mm_zs 64), (mm_zs 64), (mm_zs 32), 0, mm_zs 121) := by
  unfold fX3_tryFirst
  rw [pl_b]
  show fX3_tryFirst_11 700 (699 + 1) x 20 0 0 2 4 2 4 0 0 0 z5_rowOf z5_colOf (mm_zs 32) (mm_zs 32) (mm_zs 64) (mm_zs 64) (mm_zs 64) (mm_zs 32) (mm_zs 12) (mm_zs 12) 2 4 2 4 0 0 0 z5_rowOf z5_colOf (mm_zs 32) (mm_zs 32) (mm_zs 64) (mm_zs 64) 0 0 (mm_zs 121) (mm_zs 121) = _
  rw [fX3_tryFirst_11]
  dsimp only
  have m : mm_min x 0 = 0 := by
    unfold mm_min
    by_cases k : (0 : Int32) < x
    · rw [if_pos k]
    · rw [if_neg k]
      have k' : ¬ (0 : Int) < x.toInt := fun c => k (rg_lp (b := 0) (by decide) c)
      exact rg_eq (c := 0) (by have e : (0 : Int32).toInt = 0 := by decide
                               omega)
  unfold fX3_tryFirst_84
  rw [m]
  by_cases k : x ≤ 0
  · rw [if_pos k]
  · rw [if_neg k]; rfl
set_option maxHeartbeats 8000000 in
set_option maxRecDepth 100000 in
theorem pl_bh (x : Int32) : fX8_behind 700 x 2 4 2 4 0 0 0 z5_rowOf z5_colOf (mm_zs 32) (mm_zs 32) (mm_zs 64) (mm_zs 64) 0 0 (mm_zs 121) (mm_zs 121) 0 2 4 2 4 0 0 0 z5_rowOf z5_colOf (mm_zs 32) (mm_zs 32) (mm_zs 64) (mm_zs 64) (mm_zs 64) (mm_zs 32) (mm_zs 12) (mm_zs 12) 20 = some (decide (x = 0), 0, mm_zs 121, 2, 4, 2, 4, 0, 0, 0, z5_rowOf, z5_colOf, (mm_zs 32), (mm_zs 32), (mm_zs 64), (mm_zs 64), (mm_zs 64), (mm_zs 32)) := by
  unfold fX8_behind
  by_cases k : x.toInt < 0
  · rw [if_pos (rg_p (b := 0) (by decide) k), decide_eq_false (rg_qn (b := 0) (by decide) (.inl k))]
  · rw [if_neg (rg_n (b := 0) (by decide) (by omega)), pl_t x (by omega)]
    show (if (0 : Int32) = x then _ else _) = _
    by_cases e : x = 0
    · subst e; rfl
    · rw [if_neg (fun c => e c.symm), decide_eq_false e]
set_option maxHeartbeats 8000000 in
set_option maxRecDepth 100000 in
theorem pl_b9 (x : Int32) (h : ¬ x = 0) : ∃ o, fX9_isBehind 700 x 2 4 (-1) 0 0 0 0 0 0 0 0 0 0 0 0 z9_limit z9_shapeRows z9_shapeColumns z9_row z9_column (mm_zs 192) (mm_zs 192) (mm_zs 384) (mm_zs 384) (mm_zs 120) (mm_zs 120) (mm_zs 6) (mm_zs 64) (mm_zs 32) (mm_zs 32) (mm_zs 64) (mm_zs 12) (mm_zs 12) = some (false, o) := by
  unfold fX9_isBehind
  by_cases k : x.toInt < 0
  · rw [if_pos (rg_p (b := 0) (by decide) k)]; exact ⟨_, rfl⟩
  · rw [if_neg (rg_n (b := 0) (by decide) (by omega)), pl_g1 x (-1) 0]
    show ∃ o, (if (0 : Int32) = x then _ else _) = some (false, o)
    rw [if_neg (fun c => h c.symm)]
    exact ⟨_, rfl⟩
set_option maxHeartbeats 8000000 in
set_option maxRecDepth 100000 in
theorem pl_b90 : fX9_isBehind 700 0 2 4 (-1) 0 0 0 0 0 0 0 0 0 0 0 0 z9_limit z9_shapeRows z9_shapeColumns z9_row z9_column (mm_zs 192) (mm_zs 192) (mm_zs 384) (mm_zs 384) (mm_zs 120) (mm_zs 120) (mm_zs 6) (mm_zs 64) (mm_zs 32) (mm_zs 32) (mm_zs 64) (mm_zs 12) (mm_zs 12) = some (true, 0, 0, 0, 0, 0, 0, 0, 0, 0, 0, 0, g9_shapeRows, g9_shapeColumns, g9_row, g9_column, mm_zs 192, mm_zs 192, mm_zs 384, mm_zs 384, mm_zs 6, mm_zs 64, mm_zs 32, mm_zs 32, mm_zs 64) := by
  unfold fX9_isBehind
  rw [if_neg (by decide), pl_g1 0 (-1) 0]
  rfl
theorem rg_d100 (y : Int32) : (y / 100).toInt = y.toInt.tdiv 100 := Int32.toInt_div_of_ne_right y 100 (by decide)
theorem rg_r100 (y : Int32) (h : 0 ≤ y.toInt) : (mm_rem y 100).toInt = y.toInt.tmod 100 := by
  show (y - y / 100 * 100).toInt = _
  rw [Int32.toInt_sub, Int32.toInt_mul, rg_d100]
  have e : (100 : Int32).toInt = 100 := by decide
  rw [e]
  have k := Int.mul_tdiv_add_tmod y.toInt 100
  have l1 := Int32.toInt_lt y
  have l2 := Int32.le_toInt y
  have b1 : y.toInt.tmod 100 < 100 := Int.tmod_lt_of_pos _ (by decide)
  have b2 : 0 ≤ y.toInt.tmod 100 := Int.tmod_nonneg 100 h
  rw [Int.bmod_eq_of_le (n := y.toInt.tdiv 100 * 100) (by omega) (by omega), Int.bmod_eq_of_le (by omega) (by omega)]
  omega
theorem rg_d1000 (y : Int32) : (y / 1000).toInt = y.toInt.tdiv 1000 := Int32.toInt_div_of_ne_right y 1000 (by decide)
theorem rg_r1000 (y : Int32) (h : 0 ≤ y.toInt) : (mm_rem y 1000).toInt = y.toInt.tmod 1000 := by
  show (y - y / 1000 * 1000).toInt = _
  rw [Int32.toInt_sub, Int32.toInt_mul, rg_d1000]
  have e : (1000 : Int32).toInt = 1000 := by decide
  rw [e]
  have k := Int.mul_tdiv_add_tmod y.toInt 1000
  have l1 := Int32.toInt_lt y
  have l2 := Int32.le_toInt y
  have b1 : y.toInt.tmod 1000 < 1000 := Int.tmod_lt_of_pos _ (by decide)
  have b2 : 0 ≤ y.toInt.tmod 1000 := Int.tmod_nonneg 1000 h
  rw [Int.bmod_eq_of_le (n := y.toInt.tdiv 1000 * 1000) (by omega) (by omega), Int.bmod_eq_of_le (by omega) (by omega)]
  omega
set_option maxHeartbeats 8000000 in
set_option maxRecDepth 100000 in
theorem kk_14 (y1 : Int32) (y2 : Int32) : mm_same (fX8_lies 700 y1 y2 2 4 2 4 0 0 0 z5_rowOf z5_colOf (mm_zs 32) (mm_zs 32) (mm_zs 64) (mm_zs 64) 0 0 (mm_zs 121) (mm_zs 121) 0 2 4 2 4 0 0 0 z5_rowOf z5_colOf (mm_zs 32) (mm_zs 32) (mm_zs 64) (mm_zs 64) (mm_zs 64) (mm_zs 32) (mm_zs 12) (mm_zs 12) 20) (fX9_lies 700 y1 y2 2 4 (-1) 0 0 0 0 0 0 0 0 0 0 0 0 z9_limit z9_shapeRows z9_shapeColumns z9_row z9_column (mm_zs 192) (mm_zs 192) (mm_zs 384) (mm_zs 384) (mm_zs 120) (mm_zs 120) (mm_zs 6) (mm_zs 64) (mm_zs 32) (mm_zs 32) (mm_zs 64) (mm_zs 12) (mm_zs 12)) = true := by
  unfold fX8_lies fX9_lies
  by_cases k : y1.toInt < 0
  · rw [if_pos (rg_p (x := y1) (b := 0) (by decide) k), if_pos (rg_p (x := y1) (b := 0) (by decide) k)]; rfl
  rw [if_neg (rg_n (x := y1) (b := 0) (by decide) (by omega)), if_neg (rg_n (x := y1) (b := 0) (by decide) (by omega))]
  have d := rg_d100 y1
  have kd := Int.mul_tdiv_add_tmod y1.toInt 100
  have b1 : y1.toInt.tmod 100 < 100 := Int.tmod_lt_of_pos _ (by decide)
  have b2 : 0 ≤ y1.toInt.tmod 100 := Int.tmod_nonneg 100 (by omega)
  by_cases g : (y1 / 100).toInt < 8
  · rw [rg_f5t (y1 / 100) (by omega) g, rg_f9t (y1 / 100) (by omega) g, pl_bh (mm_rem y1 100)]
    by_cases m : mm_rem y1 100 = 0
    · rw [m, pl_b90]
      by_cases c : 0 ≤ y2.toInt ∧ y2.toInt < 4
      · rw [rg_wt 700 y2 (a := 0) (b := 3) (by decide) (by decide) c.1 (by omega)]
        have q := rg_all2 (fun y z => mm_sameN (fX5_placeOf 700 y z 2 4 z5_rowOf z5_colOf (mm_zs 32) (mm_zs 32)) (fX9_whereOf 700 1 y z g9_row g9_column (mm_zs 192) (mm_zs 192))) 8 4 (by decide +kernel) (y1 / 100) y2 (by omega) g c.1 c.2
        obtain ⟨r, h8, h9⟩ := mm_sameNs q
        show mm_same (mm_bd1 (fX5_placeOf 700 (y1 / 100) y2 2 4 z5_rowOf z5_colOf (mm_zs 32) (mm_zs 32)) _) (mm_bd1 (fX9_whereOf 700 1 (y1 / 100) y2 g9_row g9_column (mm_zs 192) (mm_zs 192)) _) = true
        rw [h8, h9]
        show decide (r = r) = true
        exact decide_eq_true rfl
      · rw [rg_wf 700 y2 (a := 0) (b := 3) (by decide) (by decide) (by omega)]
        show mm_same (mm_bd1 (fX5_placeOf 700 (y1 / 100) y2 2 4 z5_rowOf z5_colOf (mm_zs 32) (mm_zs 32)) _) _ = true
        unfold fX5_placeOf
        rw [rg_f5t (y1 / 100) (by omega) g, if_neg (rg_qn (x := y2) (b := 0) (by decide) (by omega)), if_neg (rg_qn (x := y2) (b := 1) (by decide) (by omega)), if_neg (rg_qn (x := y2) (b := 2) (by decide) (by omega)), if_neg (rg_qn (x := y2) (b := 3) (by decide) (by omega))]
        rfl
    · obtain ⟨o, ho⟩ := pl_b9 (mm_rem y1 100) m
      rw [ho, decide_eq_false m]
      by_cases c : 0 ≤ y2.toInt ∧ y2.toInt < 4
      · rw [rg_wt 700 y2 (a := 0) (b := 3) (by decide) (by decide) c.1 (by omega)]; rfl
      · rw [rg_wf 700 y2 (a := 0) (b := 3) (by decide) (by decide) (by omega)]; rfl
  · rw [rg_f5f (y1 / 100) (by omega), rg_f9f (y1 / 100) (by omega)]
    rfl
set_option maxHeartbeats 8000000 in
set_option maxRecDepth 100000 in
theorem pp_14 (y1 : Int32) (y2 : Int32) : ∃ (r : Int32) (p_wearing_stacked : Int32) (p_wearing_stack : List Int32) (p_planned_trial_rows : Int32) (p_planned_trial_cols : Int32) (p_planned_trial_high : Int32) (p_planned_trial_wide : Int32) (p_planned_trial_folds : Int32) (p_planned_trial_wrong : Int32) (p_planned_trial_more : Int32) (p_planned_trial_rowOf : List Int32) (p_planned_trial_colOf : List Int32) (p_planned_trial_below : List Int32) (p_planned_trial_face : List Int32) (p_planned_trial_worn : List Int32) (p_planned_trial_last : List Int32) (p_planned_trial_bend : List Int32) (p_planned_trial_tall : List Int32) (q_base : Int32) (q_at : Int32) (q_ends : Int32) (q_fault : Int32) (q_opened : Int32) (q_bentMany : Int32) (q_bentWrong : Int32) (q_moreWorn : Int32) (q_allWrong : Int32) (q_allWorn : Int32) (q_z : Int32) (q_shapeRows : List Int32) (q_shapeColumns : List Int32) (q_row : List Int32) (q_column : List Int32) (q_below : List Int32) (q_face : List Int32) (q_worn : List Int32) (q_lastBend : List Int32) (q_names : List Int32) (q_bends : List Int32) (q_high : List Int32) (q_to : List Int32) (q_pileSize : List Int32), fX8_lies 700 y1 y2 2 4 2 4 0 0 0 z5_rowOf z5_colOf (mm_zs 32) (mm_zs 32) (mm_zs 64) (mm_zs 64) 0 0 (mm_zs 121) (mm_zs 121) 0 2 4 2 4 0 0 0 z5_rowOf z5_colOf (mm_zs 32) (mm_zs 32) (mm_zs 64) (mm_zs 64) (mm_zs 64) (mm_zs 32) (mm_zs 12) (mm_zs 12) 20 = some (r, p_wearing_stacked, p_wearing_stack, p_planned_trial_rows, p_planned_trial_cols, p_planned_trial_high, p_planned_trial_wide, p_planned_trial_folds, p_planned_trial_wrong, p_planned_trial_more, p_planned_trial_rowOf, p_planned_trial_colOf, p_planned_trial_below, p_planned_trial_face, p_planned_trial_worn, p_planned_trial_last, p_planned_trial_bend, p_planned_trial_tall) ∧ fX9_lies 700 y1 y2 2 4 (-1) 0 0 0 0 0 0 0 0 0 0 0 0 z9_limit z9_shapeRows z9_shapeColumns z9_row z9_column (mm_zs 192) (mm_zs 192) (mm_zs 384) (mm_zs 384) (mm_zs 120) (mm_zs 120) (mm_zs 6) (mm_zs 64) (mm_zs 32) (mm_zs 32) (mm_zs 64) (mm_zs 12) (mm_zs 12) = some (r, q_base, q_at, q_ends, q_fault, q_opened, q_bentMany, q_bentWrong, q_moreWorn, q_allWrong, q_allWorn, q_z, q_shapeRows, q_shapeColumns, q_row, q_column, q_below, q_face, q_worn, q_lastBend, q_names, q_bends, q_high, q_to, q_pileSize) := by
  obtain ⟨r, ⟨p0, p1, p2, p3, p4, p5, p6, p7, p8, p9, p10, p11, p12, p13, p14, p15, p16⟩, ⟨q0, q1, q2, q3, q4, q5, q6, q7, q8, q9, q10, q11, q12, q13, q14, q15, q16, q17, q18, q19, q20, q21, q22, q23⟩, h8, h9⟩ := mm_sames (kk_14 y1 y2)
  exact ⟨r, p0, p1, p2, p3, p4, p5, p6, p7, p8, p9, p10, p11, p12, p13, p14, p15, p16, q0, q1, q2, q3, q4, q5, q6, q7, q8, q9, q10, q11, q12, q13, q14, q15, q16, q17, q18, q19, q20, q21, q22, q23, h8, h9⟩
set_option maxHeartbeats 8000000 in
set_option maxRecDepth 100000 in
theorem kk_15 (y1 : Int32) (y2 : Int32) : mm_same (fX8_top 700 y1 y2 2 4 2 4 0 0 0 z5_rowOf z5_colOf (mm_zs 32) (mm_zs 32) (mm_zs 64) (mm_zs 64) 0 0 (mm_zs 121) (mm_zs 121) 0 2 4 2 4 0 0 0 z5_rowOf z5_colOf (mm_zs 32) (mm_zs 32) (mm_zs 64) (mm_zs 64) (mm_zs 64) (mm_zs 32) (mm_zs 12) (mm_zs 12) 20) (fX9_top 700 y1 y2 2 4 (-1) 0 0 0 0 0 0 0 0 0 0 0 0 z9_limit z9_shapeRows z9_shapeColumns z9_row z9_column (mm_zs 192) (mm_zs 192) (mm_zs 384) (mm_zs 384) (mm_zs 120) (mm_zs 120) (mm_zs 6) (mm_zs 64) (mm_zs 32) (mm_zs 32) (mm_zs 64) (mm_zs 12) (mm_zs 12)) = true := by
  by_cases m : y1 = 0
  · subst m
    have d := rg_d10 y2
    have kd := Int.mul_tdiv_add_tmod y2.toInt 10
    have b1 : y2.toInt.tmod 10 < 10 := Int.tmod_lt_of_pos _ (by decide)
    by_cases h : 0 ≤ y2.toInt ∧ y2.toInt < 20
    · exact rg_all (fun y => mm_same (fX8_top 700 0 y 2 4 2 4 0 0 0 z5_rowOf z5_colOf (mm_zs 32) (mm_zs 32) (mm_zs 64) (mm_zs 64) 0 0 (mm_zs 121) (mm_zs 121) 0 2 4 2 4 0 0 0 z5_rowOf z5_colOf (mm_zs 32) (mm_zs 32) (mm_zs 64) (mm_zs 64) (mm_zs 64) (mm_zs 32) (mm_zs 12) (mm_zs 12) 20) (fX9_top 700 0 y 2 4 (-1) 0 0 0 0 0 0 0 0 0 0 0 0 z9_limit z9_shapeRows z9_shapeColumns z9_row z9_column (mm_zs 192) (mm_zs 192) (mm_zs 384) (mm_zs 384) (mm_zs 120) (mm_zs 120) (mm_zs 6) (mm_zs 64) (mm_zs 32) (mm_zs 32) (mm_zs 64) (mm_zs 12) (mm_zs 12))) 20 (by decide +kernel) y2 h.1 h.2
    · unfold fX8_top fX9_top
      rw [pl_bh, pl_b90]
      show mm_same (mm_bd1 (fX5_hasPile 700 y2 2 4) _) (mm_bd1 (fX9_isPile 700 1 y2 g9_shapeRows g9_shapeColumns) _) = true
      unfold fX5_hasPile fX9_isPile
      by_cases k : y2.toInt < 0
      · rw [if_pos (rg_p (x := y2) (b := 0) (by decide) k), if_pos (rg_p (x := y2) (b := 0) (by decide) k)]
        rfl
      · rw [if_neg (rg_n (x := y2) (b := 0) (by decide) (by omega)), if_neg (rg_n (x := y2) (b := 0) (by decide) (by omega))]
        have c : (2 : Int32) ≤ y2 / 10 := rg_mp (b := 2) (by decide) (by omega)
        have c' : mm_ig g9_shapeRows 1 ≤ y2 / 10 := c
        rw [if_pos c, if_pos c']
        rfl
  · obtain ⟨o, ho⟩ := pl_b9 y1 m
    unfold fX8_top fX9_top
    rw [pl_bh, ho, decide_eq_false m]
    rfl
set_option maxHeartbeats 8000000 in
set_option maxRecDepth 100000 in
theorem pp_15 (y1 : Int32) (y2 : Int32) : ∃ (r : Int32) (p_wearing_stacked : Int32) (p_wearing_stack : List Int32) (p_planned_trial_rows : Int32) (p_planned_trial_cols : Int32) (p_planned_trial_high : Int32) (p_planned_trial_wide : Int32) (p_planned_trial_folds : Int32) (p_planned_trial_wrong : Int32) (p_planned_trial_more : Int32) (p_planned_trial_rowOf : List Int32) (p_planned_trial_colOf : List Int32) (p_planned_trial_below : List Int32) (p_planned_trial_face : List Int32) (p_planned_trial_worn : List Int32) (p_planned_trial_last : List Int32) (p_planned_trial_bend : List Int32) (p_planned_trial_tall : List Int32) (q_base : Int32) (q_at : Int32) (q_ends : Int32) (q_fault : Int32) (q_opened : Int32) (q_bentMany : Int32) (q_bentWrong : Int32) (q_moreWorn : Int32) (q_allWrong : Int32) (q_allWorn : Int32) (q_z : Int32) (q_shapeRows : List Int32) (q_shapeColumns : List Int32) (q_row : List Int32) (q_column : List Int32) (q_below : List Int32) (q_face : List Int32) (q_worn : List Int32) (q_lastBend : List Int32) (q_names : List Int32) (q_bends : List Int32) (q_high : List Int32) (q_to : List Int32) (q_pileSize : List Int32), fX8_top 700 y1 y2 2 4 2 4 0 0 0 z5_rowOf z5_colOf (mm_zs 32) (mm_zs 32) (mm_zs 64) (mm_zs 64) 0 0 (mm_zs 121) (mm_zs 121) 0 2 4 2 4 0 0 0 z5_rowOf z5_colOf (mm_zs 32) (mm_zs 32) (mm_zs 64) (mm_zs 64) (mm_zs 64) (mm_zs 32) (mm_zs 12) (mm_zs 12) 20 = some (r, p_wearing_stacked, p_wearing_stack, p_planned_trial_rows, p_planned_trial_cols, p_planned_trial_high, p_planned_trial_wide, p_planned_trial_folds, p_planned_trial_wrong, p_planned_trial_more, p_planned_trial_rowOf, p_planned_trial_colOf, p_planned_trial_below, p_planned_trial_face, p_planned_trial_worn, p_planned_trial_last, p_planned_trial_bend, p_planned_trial_tall) ∧ fX9_top 700 y1 y2 2 4 (-1) 0 0 0 0 0 0 0 0 0 0 0 0 z9_limit z9_shapeRows z9_shapeColumns z9_row z9_column (mm_zs 192) (mm_zs 192) (mm_zs 384) (mm_zs 384) (mm_zs 120) (mm_zs 120) (mm_zs 6) (mm_zs 64) (mm_zs 32) (mm_zs 32) (mm_zs 64) (mm_zs 12) (mm_zs 12) = some (r, q_base, q_at, q_ends, q_fault, q_opened, q_bentMany, q_bentWrong, q_moreWorn, q_allWrong, q_allWorn, q_z, q_shapeRows, q_shapeColumns, q_row, q_column, q_below, q_face, q_worn, q_lastBend, q_names, q_bends, q_high, q_to, q_pileSize) := by
  obtain ⟨r, ⟨p0, p1, p2, p3, p4, p5, p6, p7, p8, p9, p10, p11, p12, p13, p14, p15, p16⟩, ⟨q0, q1, q2, q3, q4, q5, q6, q7, q8, q9, q10, q11, q12, q13, q14, q15, q16, q17, q18, q19, q20, q21, q22, q23⟩, h8, h9⟩ := mm_sames (kk_15 y1 y2)
  exact ⟨r, p0, p1, p2, p3, p4, p5, p6, p7, p8, p9, p10, p11, p12, p13, p14, p15, p16, q0, q1, q2, q3, q4, q5, q6, q7, q8, q9, q10, q11, q12, q13, q14, q15, q16, q17, q18, q19, q20, q21, q22, q23, h8, h9⟩
set_option maxHeartbeats 8000000 in
set_option maxRecDepth 100000 in
theorem kk_16 (y1 : Int32) (y2 : Int32) : mm_same (fX8_beside 700 y1 y2 2 4 2 4 0 0 0 z5_rowOf z5_colOf (mm_zs 32) (mm_zs 32) (mm_zs 64) (mm_zs 64) 0 0 (mm_zs 121) (mm_zs 121) 0 2 4 2 4 0 0 0 z5_rowOf z5_colOf (mm_zs 32) (mm_zs 32) (mm_zs 64) (mm_zs 64) (mm_zs 64) (mm_zs 32) (mm_zs 12) (mm_zs 12) 20) (fX9_beside 700 y1 y2 2 4 (-1) 0 0 0 0 0 0 0 0 0 0 0 0 z9_limit z9_shapeRows z9_shapeColumns z9_row z9_column (mm_zs 192) (mm_zs 192) (mm_zs 384) (mm_zs 384) (mm_zs 120) (mm_zs 120) (mm_zs 6) (mm_zs 64) (mm_zs 32) (mm_zs 32) (mm_zs 64) (mm_zs 12) (mm_zs 12)) = true := by
  by_cases k : y2.toInt < 0
  · unfold fX8_beside fX9_beside
    rw [if_pos (rg_p (x := y2) (b := 0) (by decide) k), if_neg (rg_mn (x := y2) (b := 0) (by decide) k)]; rfl
  have d := rg_d100 y2
  have kd := Int.mul_tdiv_add_tmod y2.toInt 100
  have b1 : y2.toInt.tmod 100 < 100 := Int.tmod_lt_of_pos _ (by decide)
  have b2 : 0 ≤ y2.toInt.tmod 100 := Int.tmod_nonneg 100 (by omega)
  by_cases g : (y2 / 100).toInt < 8
  · by_cases m : y1 = 0
    · subst m
      exact rg_all (fun y => mm_same (fX8_beside 700 0 y 2 4 2 4 0 0 0 z5_rowOf z5_colOf (mm_zs 32) (mm_zs 32) (mm_zs 64) (mm_zs 64) 0 0 (mm_zs 121) (mm_zs 121) 0 2 4 2 4 0 0 0 z5_rowOf z5_colOf (mm_zs 32) (mm_zs 32) (mm_zs 64) (mm_zs 64) (mm_zs 64) (mm_zs 32) (mm_zs 12) (mm_zs 12) 20) (fX9_beside 700 0 y 2 4 (-1) 0 0 0 0 0 0 0 0 0 0 0 0 z9_limit z9_shapeRows z9_shapeColumns z9_row z9_column (mm_zs 192) (mm_zs 192) (mm_zs 384) (mm_zs 384) (mm_zs 120) (mm_zs 120) (mm_zs 6) (mm_zs 64) (mm_zs 32) (mm_zs 32) (mm_zs 64) (mm_zs 12) (mm_zs 12))) 800 (by decide +kernel) y2 (by omega) (by omega)
    · obtain ⟨o, ho⟩ := pl_b9 y1 m
      have e8 : ∃ o8, fX8_beside 700 y1 y2 2 4 2 4 0 0 0 z5_rowOf z5_colOf (mm_zs 32) (mm_zs 32) (mm_zs 64) (mm_zs 64) 0 0 (mm_zs 121) (mm_zs 121) 0 2 4 2 4 0 0 0 z5_rowOf z5_colOf (mm_zs 32) (mm_zs 32) (mm_zs 64) (mm_zs 64) (mm_zs 64) (mm_zs 32) (mm_zs 12) (mm_zs 12) 20 = some (-1, o8) := by
        unfold fX8_beside
        rw [if_pos (rg_mp (x := y2) (b := 0) (by decide) (by omega)), pl_bh, decide_eq_false m]
        show ∃ o8, (if y2 / 100 = mm_rem y2 100 then _ else mm_bd1 (fX5_hasField 700 (y2 / 100) 2 4) (fun r_7 => if r_7 = false then _ else mm_bd1 (fX5_hasField 700 (mm_rem y2 100) 2 4) (fun r_10 => if r_10 = false then _ else some (-1, _)))) = some (-1, o8)
        rw [rg_f5t (y2 / 100) (by omega) g]
        by_cases c : y2 / 100 = mm_rem y2 100
        · rw [if_pos c]; exact ⟨_, rfl⟩
        · rw [if_neg c]
          by_cases c2 : (mm_rem y2 100).toInt < 0 ∨ 8 ≤ (mm_rem y2 100).toInt
          · rw [rg_f5f _ c2]; exact ⟨_, rfl⟩
          · rw [rg_f5t _ (by omega) (by omega)]; exact ⟨_, rfl⟩
      have e9 : ∃ o9, fX9_beside 700 y1 y2 2 4 (-1) 0 0 0 0 0 0 0 0 0 0 0 0 z9_limit z9_shapeRows z9_shapeColumns z9_row z9_column (mm_zs 192) (mm_zs 192) (mm_zs 384) (mm_zs 384) (mm_zs 120) (mm_zs 120) (mm_zs 6) (mm_zs 64) (mm_zs 32) (mm_zs 32) (mm_zs 64) (mm_zs 12) (mm_zs 12) = some (-1, o9) := by
        unfold fX9_beside
        rw [if_neg (rg_n (x := y2) (b := 0) (by decide) (by omega)), ho, rg_f9t (y2 / 100) (by omega) g]
        show ∃ o9, (mm_bd1 (fX9_isField 700 (mm_rem y2 100) 2 4) (fun r_7 => if r_7 = false then _ else (if y2 / 100 = mm_rem y2 100 then _ else _))) = some (-1, o9)
        by_cases c2 : (mm_rem y2 100).toInt < 0 ∨ 8 ≤ (mm_rem y2 100).toInt
        · rw [rg_f9f _ c2]; exact ⟨_, rfl⟩
        · rw [rg_f9t _ (by omega) (by omega)]
          show ∃ o9, (if y2 / 100 = mm_rem y2 100 then _ else _) = some (-1, o9)
          by_cases c : y2 / 100 = mm_rem y2 100
          · rw [if_pos c]; exact ⟨_, rfl⟩
          · rw [if_neg c]; exact ⟨_, rfl⟩
      obtain ⟨o8, h8⟩ := e8
      obtain ⟨o9, h9⟩ := e9
      rw [h8, h9]
      rfl
  · have e8 : ∃ o8, fX8_beside 700 y1 y2 2 4 2 4 0 0 0 z5_rowOf z5_colOf (mm_zs 32) (mm_zs 32) (mm_zs 64) (mm_zs 64) 0 0 (mm_zs 121) (mm_zs 121) 0 2 4 2 4 0 0 0 z5_rowOf z5_colOf (mm_zs 32) (mm_zs 32) (mm_zs 64) (mm_zs 64) (mm_zs 64) (mm_zs 32) (mm_zs 12) (mm_zs 12) 20 = some (-1, o8) := by
      unfold fX8_beside
      rw [if_pos (rg_mp (x := y2) (b := 0) (by decide) (by omega))]
      show ∃ o8, (if y2 / 100 = mm_rem y2 100 then _ else mm_bd1 (fX5_hasField 700 (y2 / 100) 2 4) _) = some (-1, o8)
      rw [rg_f5f (y2 / 100) (by omega)]
      by_cases c : y2 / 100 = mm_rem y2 100
      · rw [if_pos c]; exact ⟨_, rfl⟩
      · rw [if_neg c]; exact ⟨_, rfl⟩
    obtain ⟨o8, h8⟩ := e8
    unfold fX9_beside
    rw [h8, if_neg (rg_n (x := y2) (b := 0) (by decide) (by omega)), rg_f9f (y2 / 100) (by omega)]
    rfl
set_option maxHeartbeats 8000000 in
set_option maxRecDepth 100000 in
theorem pp_16 (y1 : Int32) (y2 : Int32) : ∃ (r : Int32) (p_wearing_stacked : Int32) (p_wearing_stack : List Int32) (p_planned_trial_rows : Int32) (p_planned_trial_cols : Int32) (p_planned_trial_high : Int32) (p_planned_trial_wide : Int32) (p_planned_trial_folds : Int32) (p_planned_trial_wrong : Int32) (p_planned_trial_more : Int32) (p_planned_trial_rowOf : List Int32) (p_planned_trial_colOf : List Int32) (p_planned_trial_below : List Int32) (p_planned_trial_face : List Int32) (p_planned_trial_worn : List Int32) (p_planned_trial_last : List Int32) (p_planned_trial_bend : List Int32) (p_planned_trial_tall : List Int32) (q_base : Int32) (q_at : Int32) (q_ends : Int32) (q_fault : Int32) (q_opened : Int32) (q_bentMany : Int32) (q_bentWrong : Int32) (q_moreWorn : Int32) (q_allWrong : Int32) (q_allWorn : Int32) (q_z : Int32) (q_shapeRows : List Int32) (q_shapeColumns : List Int32) (q_row : List Int32) (q_column : List Int32) (q_below : List Int32) (q_face : List Int32) (q_worn : List Int32) (q_lastBend : List Int32) (q_names : List Int32) (q_bends : List Int32) (q_high : List Int32) (q_to : List Int32) (q_pileSize : List Int32), fX8_beside 700 y1 y2 2 4 2 4 0 0 0 z5_rowOf z5_colOf (mm_zs 32) (mm_zs 32) (mm_zs 64) (mm_zs 64) 0 0 (mm_zs 121) (mm_zs 121) 0 2 4 2 4 0 0 0 z5_rowOf z5_colOf (mm_zs 32) (mm_zs 32) (mm_zs 64) (mm_zs 64) (mm_zs 64) (mm_zs 32) (mm_zs 12) (mm_zs 12) 20 = some (r, p_wearing_stacked, p_wearing_stack, p_planned_trial_rows, p_planned_trial_cols, p_planned_trial_high, p_planned_trial_wide, p_planned_trial_folds, p_planned_trial_wrong, p_planned_trial_more, p_planned_trial_rowOf, p_planned_trial_colOf, p_planned_trial_below, p_planned_trial_face, p_planned_trial_worn, p_planned_trial_last, p_planned_trial_bend, p_planned_trial_tall) ∧ fX9_beside 700 y1 y2 2 4 (-1) 0 0 0 0 0 0 0 0 0 0 0 0 z9_limit z9_shapeRows z9_shapeColumns z9_row z9_column (mm_zs 192) (mm_zs 192) (mm_zs 384) (mm_zs 384) (mm_zs 120) (mm_zs 120) (mm_zs 6) (mm_zs 64) (mm_zs 32) (mm_zs 32) (mm_zs 64) (mm_zs 12) (mm_zs 12) = some (r, q_base, q_at, q_ends, q_fault, q_opened, q_bentMany, q_bentWrong, q_moreWorn, q_allWrong, q_allWorn, q_z, q_shapeRows, q_shapeColumns, q_row, q_column, q_below, q_face, q_worn, q_lastBend, q_names, q_bends, q_high, q_to, q_pileSize) := by
  obtain ⟨r, ⟨p0, p1, p2, p3, p4, p5, p6, p7, p8, p9, p10, p11, p12, p13, p14, p15, p16⟩, ⟨q0, q1, q2, q3, q4, q5, q6, q7, q8, q9, q10, q11, q12, q13, q14, q15, q16, q17, q18, q19, q20, q21, q22, q23⟩, h8, h9⟩ := mm_sames (kk_16 y1 y2)
  exact ⟨r, p0, p1, p2, p3, p4, p5, p6, p7, p8, p9, p10, p11, p12, p13, p14, p15, p16, q0, q1, q2, q3, q4, q5, q6, q7, q8, q9, q10, q11, q12, q13, q14, q15, q16, q17, q18, q19, q20, q21, q22, q23, h8, h9⟩
