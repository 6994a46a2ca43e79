/-! plan, row, crease -/
theorem rg_pf (x z : Int32) (h : x.toInt < 1 ∨ 7 < x.toInt ∨ z.toInt < 0 ∨ 7 < z.toInt) : fX8_isPlannedFold 700 x.toInt64 z.toInt64 = some false := by
  unfold fX8_isPlannedFold
  by_cases k1 : x.toInt < 1
  · rw [if_pos (rg_lt (b := 1) (Int32.toInt_toInt64 x) (by decide) k1)]
  rw [if_neg (rg_ge (b := 1) (Int32.toInt_toInt64 x) (by decide) (by omega))]
  by_cases k2 : 7 < x.toInt
  · rw [if_pos (rg_gt (b := 7) (Int32.toInt_toInt64 x) (by decide) k2)]
  rw [if_neg (rg_le (b := 7) (Int32.toInt_toInt64 x) (by decide) (by omega))]
  by_cases k3 : z.toInt < 0
  · rw [if_pos (rg_lt (b := 0) (Int32.toInt_toInt64 z) (by decide) k3)]
  rw [if_neg (rg_ge (b := 0) (Int32.toInt_toInt64 z) (by decide) (by omega)), if_pos (rg_gee (b := 8) (Int32.toInt_toInt64 z) (by decide) (by omega))]
set_option maxHeartbeats 8000000 in
set_option maxRecDepth 100000 in
theorem kk_11 (y1 : Int32) (y2 : Int32) : mm_same (fX8_plan 700 y1 y2 0 (mm_zs 12) (mm_zs 12)) (fX9_plan 700 y1 y2 0 (mm_zs 12) (mm_zs 12)) = true := by
  by_cases h0 : y1 = 0
  · subst h0; rfl
  have hn : ¬ y1.toInt = 0 := fun k => h0 (rg_eq (c := 0) k)
  by_cases h : 1 ≤ y1.toInt ∧ y1.toInt ≤ 7
  · by_cases g : 0 ≤ y2.toInt ∧ y2.toInt < 8
    · exact rg_all2 (fun y z => mm_same (fX8_plan 700 y z 0 (mm_zs 12) (mm_zs 12)) (fX9_plan 700 y z 0 (mm_zs 12) (mm_zs 12))) 8 8 (by decide +kernel) y1 y2 (by omega) (by omega) g.1 g.2
    · unfold fX8_plan fX9_plan
      rw [if_neg h0, if_neg h0, rg_pf y1 y2 (by omega), rg_wt 700 y1 (a := 1) (b := 7) (by decide) (by decide) h.1 h.2, rg_wf 700 y2 (a := 0) (b := 7) (by decide) (by decide) (by omega)]
      rfl
  · unfold fX8_plan fX9_plan
    rw [if_neg h0, if_neg h0, rg_pf y1 y2 (by omega), rg_wf 700 y1 (a := 1) (b := 7) (by decide) (by decide) (by omega)]
    rfl
set_option maxHeartbeats 8000000 in
set_option maxRecDepth 100000 in
theorem pp_11 (y1 : Int32) (y2 : Int32) : ∃ (r : Int32) (p_planned_size : Int32) (p_planned_lines : List Int32) (p_planned_ways : List Int32) (q_planned : Int32) (q_planLine : List Int32) (q_planWay : List Int32), fX8_plan 700 y1 y2 0 (mm_zs 12) (mm_zs 12) = some (r, p_planned_size, p_planned_lines, p_planned_ways) ∧ fX9_plan 700 y1 y2 0 (mm_zs 12) (mm_zs 12) = some (r, q_planned, q_planLine, q_planWay) := by
  obtain ⟨r, ⟨p0, p1, p2⟩, ⟨q0, q1, q2⟩, h8, h9⟩ := mm_sames (kk_11 y1 y2)
  exact ⟨r, p0, p1, p2, q0, q1, q2, h8, h9⟩
set_option maxHeartbeats 8000000 in
set_option maxRecDepth 100000 in
theorem kk_33 (y1 : Int32) (y2 : Int32) (y3 : Int32) : mm_same (fX8_row 700 y1 y2 y3 0 0 0 (mm_zl 60) 0 0 0 (mm_zl 60) 0 0 0 (mm_zl 60) 0 0 0 (mm_zl 60) 0 0 0 (mm_zl 60) 0 0 0 (mm_zl 60)) (fX9_row 700 y1 y2 y3 z9_shelf (mm_zs 6) (mm_zl 360)) = true := by
  by_cases h : 0 ≤ y1.toInt ∧ y1.toInt < 6
  · by_cases g : 0 ≤ y2.toInt ∧ y2.toInt < 5
    · by_cases f : y3.toInt ≤ 60
      · by_cases f' : 0 ≤ y3.toInt
        · unfold fX8_row fX9_row
          rw [rg_wt 700 y2 (a := 0) (b := 4) (by decide) (by decide) (by omega) (by omega), if_neg (rg_n (x := y2) (b := 0) (by decide) (by omega)), if_neg (rg_mn (x := y2) (b := 5) (by decide) (by omega)), if_pos (rg_ep (x := y3) (b := 60) (by decide) f), if_pos (rg_mp (x := y3) (b := 0) (by decide) f'), if_pos (rg_ep (x := y3) (b := 60) (by decide) f), if_pos (rg_mp (x := y3) (b := 0) (by decide) f')]
          rcases rg_six y1 h.1 h.2 with e | e | e | e | e | e <;> subst e <;> rfl
        · unfold fX8_row fX9_row
          rw [rg_wt 700 y2 (a := 0) (b := 4) (by decide) (by decide) (by omega) (by omega), if_neg (rg_n (x := y2) (b := 0) (by decide) (by omega)), if_neg (rg_mn (x := y2) (b := 5) (by decide) (by omega)), if_pos (rg_ep (x := y3) (b := 60) (by decide) f), if_neg (rg_mn (x := y3) (b := 0) (by decide) (by omega)), if_pos (rg_ep (x := y3) (b := 60) (by decide) f), if_neg (rg_mn (x := y3) (b := 0) (by decide) (by omega))]
          rcases rg_six y1 h.1 h.2 with e | e | e | e | e | e <;> subst e <;> rfl
      · unfold fX8_row fX9_row
        rw [rg_wt 700 y2 (a := 0) (b := 4) (by decide) (by decide) (by omega) (by omega), if_neg (rg_n (x := y2) (b := 0) (by decide) (by omega)), if_neg (rg_mn (x := y2) (b := 5) (by decide) (by omega)), if_neg (rg_en (x := y3) (b := 60) (by decide) (by omega)), if_neg (rg_en (x := y3) (b := 60) (by decide) (by omega))]
        rcases rg_six y1 h.1 h.2 with e | e | e | e | e | e <;> subst e <;> rfl
    · unfold fX8_row fX9_row
      rw [rg_wf 700 y2 (a := 0) (b := 4) (by decide) (by decide) (by omega)]
      by_cases g' : y2.toInt < 0
      · rw [if_pos (rg_p (x := y2) (b := 0) (by decide) g')]
        rcases rg_six y1 h.1 h.2 with e | e | e | e | e | e <;> subst e <;> rfl
      · rw [if_neg (rg_n (x := y2) (b := 0) (by decide) (by omega)), if_pos (rg_mp (x := y2) (b := 5) (by decide) (by omega))]
        rcases rg_six y1 h.1 h.2 with e | e | e | e | e | e <;> subst e <;> rfl
  · unfold fX8_row fX9_row
    rw [rg_s8 y1 (by omega), rg_s9 y1 (by omega)]
    rfl
set_option maxHeartbeats 8000000 in
set_option maxRecDepth 100000 in
theorem pp_33 (y1 : Int32) (y2 : Int32) (y3 : Int32) : ∃ (r : Int32) (p_shelves0_holds : Int32) (p_shelves0_sort : Int32) (p_shelves0_size : Int32) (p_shelves0_items : List Int64) (p_shelves1_holds : Int32) (p_shelves1_sort : Int32) (p_shelves1_size : Int32) (p_shelves1_items : List Int64) (p_shelves2_holds : Int32) (p_shelves2_sort : Int32) (p_shelves2_size : Int32) (p_shelves2_items : List Int64) (p_shelves3_holds : Int32) (p_shelves3_sort : Int32) (p_shelves3_size : Int32) (p_shelves3_items : List Int64) (p_shelves4_holds : Int32) (p_shelves4_sort : Int32) (p_shelves4_size : Int32) (p_shelves4_items : List Int64) (p_shelves5_holds : Int32) (p_shelves5_sort : Int32) (p_shelves5_size : Int32) (p_shelves5_items : List Int64) (q_shelf : List Int32) (q_many : List Int32) (q_items : List Int64), fX8_row 700 y1 y2 y3 0 0 0 (mm_zl 60) 0 0 0 (mm_zl 60) 0 0 0 (mm_zl 60) 0 0 0 (mm_zl 60) 0 0 0 (mm_zl 60) 0 0 0 (mm_zl 60) = some (r, p_shelves0_holds, p_shelves0_sort, p_shelves0_size, p_shelves0_items, p_shelves1_holds, p_shelves1_sort, p_shelves1_size, p_shelves1_items, p_shelves2_holds, p_shelves2_sort, p_shelves2_size, p_shelves2_items, p_shelves3_holds, p_shelves3_sort, p_shelves3_size, p_shelves3_items, p_shelves4_holds, p_shelves4_sort, p_shelves4_size, p_shelves4_items, p_shelves5_holds, p_shelves5_sort, p_shelves5_size, p_shelves5_items) ∧ fX9_row 700 y1 y2 y3 z9_shelf (mm_zs 6) (mm_zl 360) = some (r, q_shelf, q_many, q_items) := by
  obtain ⟨r, ⟨p0, p1, p2, p3, p4, p5, p6, p7, p8, p9, p10, p11, p12, p13, p14, p15, p16, p17, p18, p19, p20, p21, p22, p23⟩, ⟨q0, q1, q2⟩, h8, h9⟩ := mm_sames (kk_33 y1 y2 y3)
  exact ⟨r, p0, p1, p2, p3, p4, p5, p6, p7, p8, p9, p10, p11, p12, p13, p14, p15, p16, p17, p18, p19, p20, p21, p22, p23, q0, q1, q2, h8, h9⟩
theorem rg_nz10 : mm_nz 10 = true := rfl
theorem rg_i9 (y : Int32) (h : 80 ≤ y.toInt) (h' : y.toInt.tmod 10 ≤ 1) : fX9_isCrease 700 (2 * (y / 10) + mm_rem y 10) 2 4 = some false := by
  have l1 := Int32.toInt_lt y
  have d := rg_d10 y
  have r := rg_r10 y (by omega)
  have kd := Int.mul_tdiv_add_tmod y.toInt 10
  have b1 : y.toInt.tmod 10 < 10 := Int.tmod_lt_of_pos _ (by decide)
  have b2 : 0 ≤ y.toInt.tmod 10 := Int.tmod_nonneg 10 (by omega)
  have t2 : (2 : Int32).toInt = 2 := by decide
  have s : (2 * (y / 10) + mm_rem y 10).toInt = 2 * y.toInt.tdiv 10 + y.toInt.tmod 10 := by
    rw [Int32.toInt_add, Int32.toInt_mul, d, r, t2, Int.bmod_eq_of_le (n := 2 * y.toInt.tdiv 10) (by omega) (by omega), Int.bmod_eq_of_le (by omega) (by omega)]
  have q : ((2 * (y / 10) + mm_rem y 10) / 2).toInt = (2 * y.toInt.tdiv 10 + y.toInt.tmod 10).tdiv 2 := by
    rw [Int32.toInt_div_of_ne_right _ 2 (by decide), s, t2]
  have q2 : 7 < ((2 * (y / 10) + mm_rem y 10) / 2).toInt := by
    rw [q, Int.tdiv_eq_ediv_of_nonneg (by omega)]
    omega
  unfold fX9_isCrease
  show mm_bd1 (fX9_within 700 ((2 * (y / 10) + mm_rem y 10) / 2).toInt64 0 ((2 * 4 : Int32) - 1).toInt64) _ = _
  rw [rg_wf 700 _ (a := 0) (b := 7) (by decide) (by decide) (.inr q2)]
  rfl
set_option maxHeartbeats 8000000 in
set_option maxRecDepth 100000 in
theorem kk_6 (y1 : Int32) (y2 : Int32) : mm_sameN (fX8_crease 700 y1 y2 2 4 (mm_zs 64) (mm_zs 64) 20) (fX9_crease 700 y1 y2 2 4 z9_limit (mm_zs 384) (mm_zs 384)) = true := by
  by_cases h : 0 ≤ y1.toInt ∧ y1.toInt < 80
  · by_cases g : 0 ≤ y2.toInt ∧ y2.toInt < 3
    · exact rg_all2 (fun y z => mm_sameN (fX8_crease 700 y z 2 4 (mm_zs 64) (mm_zs 64) 20) (fX9_crease 700 y z 2 4 z9_limit (mm_zs 384) (mm_zs 384))) 80 3 (by decide +kernel) y1 y2 h.1 h.2 g.1 g.2
    · have e8 : fX8_crease 700 y1 y2 2 4 (mm_zs 64) (mm_zs 64) 20 = some (-1) := by
        unfold fX8_crease
        rw [if_neg (rg_n (x := y1) (b := 0) (by decide) (by omega))]
        by_cases g' : y2.toInt < 0
        · rw [if_pos (rg_p (x := y2) (b := 0) (by decide) g')]
        · rw [if_neg (rg_n (x := y2) (b := 0) (by decide) (by omega)), if_neg (rg_en (x := y2) (b := 2) (by decide) (by omega))]
      have e9 : fX9_crease 700 y1 y2 2 4 z9_limit (mm_zs 384) (mm_zs 384) = some (-1) := by
        unfold fX9_crease
        rw [rg_wf 700 y2 (a := 0) (b := 2) (by decide) (by decide) (by omega), if_neg (rg_n (x := y1) (b := 0) (by decide) (by omega))]
        show (if 1 < mm_rem y1 10 then _ else mm_bd1 (fX9_isCrease 700 (2 * (y1 / 10) + mm_rem y1 10) 2 4) (fun r_6 => if r_6 = false then _ else some (-1))) = _
        by_cases c : 1 < mm_rem y1 10
        · rw [if_pos c]
        · rw [if_neg c]
          have w := rg_all (fun y => (fX9_isCrease 700 (2 * (y / 10) + mm_rem y 10) 2 4).isSome) 80 (by decide +kernel) y1 h.1 h.2
          obtain ⟨b, hb⟩ := Option.isSome_iff_exists.mp w
          rw [hb]
          show (if b = false then some (-1) else some (-1)) = _
          rw [ite_self]
      rw [e8, e9]
      rfl
  · have e8 : fX8_crease 700 y1 y2 2 4 (mm_zs 64) (mm_zs 64) 20 = some (-1) := by
      unfold fX8_crease
      by_cases k : y1.toInt < 0
      · rw [if_pos (rg_p (x := y1) (b := 0) (by decide) k)]
      · rw [if_neg (rg_n (x := y1) (b := 0) (by decide) (by omega))]
        by_cases g' : y2.toInt < 0
        · rw [if_pos (rg_p (x := y2) (b := 0) (by decide) g')]
        · rw [if_neg (rg_n (x := y2) (b := 0) (by decide) (by omega))]
          by_cases g2 : y2.toInt ≤ 2
          · rw [if_pos (rg_ep (x := y2) (b := 2) (by decide) (by omega))]
            show mm_bd1 (fX5_neighbour 700 (y1 / 10) (mm_rem y1 10) 2 4) _ = _
            have d := rg_d10 y1
            have kd := Int.mul_tdiv_add_tmod y1.toInt 10
            have b1 : y1.toInt.tmod 10 < 10 := Int.tmod_lt_of_pos _ (by decide)
            have b2 : 0 ≤ y1.toInt.tmod 10 := Int.tmod_nonneg 10 (by omega)
            unfold fX5_neighbour
            rw [rg_f5f (y1 / 10) (by omega)]
            rfl
          · rw [if_neg (rg_en (x := y2) (b := 2) (by decide) (by omega))]
    have e9 : fX9_crease 700 y1 y2 2 4 z9_limit (mm_zs 384) (mm_zs 384) = some (-1) := by
      unfold fX9_crease
      by_cases k : y1.toInt < 0
      · rw [if_pos (rg_p (x := y1) (b := 0) (by decide) k)]
      · rw [if_neg (rg_n (x := y1) (b := 0) (by decide) (by omega))]
        show (if 1 < mm_rem y1 10 then _ else mm_bd1 (fX9_isCrease 700 (2 * (y1 / 10) + mm_rem y1 10) 2 4) _) = _
        have r := rg_r10 y1 (by omega)
        by_cases c : y1.toInt.tmod 10 ≤ 1
        · rw [if_neg (rg_ln (b := 1) (by decide) (by omega)), rg_i9 y1 (by omega) c]
          rfl
        · rw [if_pos (rg_lp (b := 1) (by decide) (by omega))]
    rw [e8, e9]
    rfl
set_option maxHeartbeats 8000000 in
set_option maxRecDepth 100000 in
theorem pp_6 (y1 : Int32) (y2 : Int32) : ∃ (r : Int32) , fX8_crease 700 y1 y2 2 4 (mm_zs 64) (mm_zs 64) 20 = some r ∧ fX9_crease 700 y1 y2 2 4 z9_limit (mm_zs 384) (mm_zs 384) = some r := by
  obtain ⟨r, h8, h9⟩ := mm_sameNs (kk_6 y1 y2)
  exact ⟨r, h8, h9⟩
