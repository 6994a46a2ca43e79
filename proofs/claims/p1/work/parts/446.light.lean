/-! act, keep, plans, put, element, taken, shift, shape, where -/
theorem rg_all2 (f : Int32 → Int32 → Bool) (n m : Nat) (h : ((List.range n).all (fun i => (List.range m).all (fun j => f (Int32.ofNat i) (Int32.ofNat j)))) = true) (y z : Int32) (h0 : 0 ≤ y.toInt) (h1 : y.toInt < n) (h2 : 0 ≤ z.toInt) (h3 : z.toInt < m) : f y z = true :=
  rg_all (fun z => f y z) m (rg_all (fun y => (List.range m).all (fun j => f y (Int32.ofNat j))) n h y h0 h1) z h2 h3
theorem rg_six (x : Int32) (h0 : 0 ≤ x.toInt) (h1 : x.toInt < 6) : x = 0 ∨ x = 1 ∨ x = 2 ∨ x = 3 ∨ x = 4 ∨ x = 5 := by
  have k : x.toInt = 0 ∨ x.toInt = 1 ∨ x.toInt = 2 ∨ x.toInt = 3 ∨ x.toInt = 4 ∨ x.toInt = 5 := by omega
  rcases k with k | k | k | k | k | k
  · exact .inl (rg_eq (c := 0) (k.trans (by decide)))
  · exact .inr (.inl (rg_eq (c := 1) (k.trans (by decide))))
  · exact .inr (.inr (.inl (rg_eq (c := 2) (k.trans (by decide)))))
  · exact .inr (.inr (.inr (.inl (rg_eq (c := 3) (k.trans (by decide))))))
  · exact .inr (.inr (.inr (.inr (.inl (rg_eq (c := 4) (k.trans (by decide)))))))
  · exact .inr (.inr (.inr (.inr (.inr (rg_eq (c := 5) (k.trans (by decide)))))))
theorem rg_s8 (x : Int32) (h : x.toInt < 0 ∨ 6 ≤ x.toInt) : fX8_isShelf 700 x = some false := by
  unfold fX8_isShelf
  by_cases k : x.toInt < 0
  · rw [if_pos (rg_p (b := 0) (by decide) k)]
  · rw [if_neg (rg_n (b := 0) (by decide) (by omega)), if_pos (rg_mp (b := 6) (by decide) (by omega))]
theorem rg_s9 (x : Int32) (h : x.toInt < 0 ∨ 6 ≤ x.toInt) : fX9_isShelf 700 x = some false := by
  unfold fX9_isShelf
  rw [rg_wf 700 x (a := 0) (b := 5) (by decide) (by decide) (by omega)]
  rfl
theorem rg_h1 (x : Int32) : fX1_has 700 x 0 = some false := by
  unfold fX1_has
  by_cases k : x.toInt < 0
  · rw [if_pos (rg_p (b := 0) (by decide) k)]
  · rw [if_neg (rg_n (b := 0) (by decide) (by omega)), if_pos (rg_mp (b := 0) (by decide) (by omega))]
theorem rg_h9 (x : Int32) : fX9_isBody 700 x 0 = some false := by
  unfold fX9_isBody
  rw [rg_wf 700 x (a := 0) (b := -1) (by decide) (by decide) (by omega)]
  rfl
theorem rg_f5f (x : Int32) (h : x.toInt < 0 ∨ 8 ≤ x.toInt) : fX5_hasField 700 x 2 4 = some false := by
  unfold fX5_hasField
  by_cases k : x.toInt < 0
  · rw [if_pos (rg_p (b := 0) (by decide) k)]
  · rw [if_neg (rg_n (b := 0) (by decide) (by omega))]
    show (if (2 * 4 : Int32) ≤ x then _ else _) = _
    rw [if_pos (rg_mp (b := 8) (by decide) (by omega))]
theorem rg_f5t (x : Int32) (h : 0 ≤ x.toInt) (h' : x.toInt < 8) : fX5_hasField 700 x 2 4 = some true := by
  unfold fX5_hasField
  rw [if_neg (rg_n (b := 0) (by decide) (by omega))]
  show (if (2 * 4 : Int32) ≤ x then _ else _) = _
  rw [if_neg (rg_mn (b := 8) (by decide) (by omega))]
theorem rg_f9f (x : Int32) (h : x.toInt < 0 ∨ 8 ≤ x.toInt) : fX9_isField 700 x 2 4 = some false := by
  show mm_bd1 (fX9_within 700 x.toInt64 0 ((2 * 4 : Int32) - 1).toInt64) _ = _
  rw [rg_wf 700 x (a := 0) (b := 7) (by decide) (by decide) (by omega)]
  rfl
theorem rg_f9t (x : Int32) (h : 0 ≤ x.toInt) (h' : x.toInt < 8) : fX9_isField 700 x 2 4 = some true := by
  show mm_bd1 (fX9_within 700 x.toInt64 0 ((2 * 4 : Int32) - 1).toInt64) _ = _
  rw [rg_wt 700 x (a := 0) (b := 7) (by decide) (by decide) h (by omega)]
  rfl
set_option maxHeartbeats 8000000 in
set_option maxRecDepth 100000 in
theorem kk_30 (y1 : Int32) (y2 : Int32) (y3 : Int32) : mm_same (fX8_act 700 y1 y2 y3 0 0 0 (mm_zs 50) (mm_zs 24)) (fX9_act 700 y1 y2 y3 0 0 0 0 (mm_zs 50) (mm_zs 24)) = true := by
  unfold fX8_act fX1_perform fX9_act
  rw [rg_h1, rg_h9]
  rfl
set_option maxHeartbeats 8000000 in
set_option maxRecDepth 100000 in
theorem pp_30 (y1 : Int32) (y2 : Int32) (y3 : Int32) : ∃ (r : Int32) (p_foldings_ran : Int32) (p_foldings_number : Int32) (p_foldings_trace : List Int32) (q_ran : Int32) (q_ownKind : Int32) (q_ownNumber : Int32) (q_trace : List Int32), fX8_act 700 y1 y2 y3 0 0 0 (mm_zs 50) (mm_zs 24) = some (r, p_foldings_ran, p_foldings_number, p_foldings_trace) ∧ fX9_act 700 y1 y2 y3 0 0 0 0 (mm_zs 50) (mm_zs 24) = some (r, q_ran, q_ownKind, q_ownNumber, q_trace) := by
  obtain ⟨r, ⟨p0, p1, p2⟩, ⟨q0, q1, q2, q3⟩, h8, h9⟩ := mm_sames (kk_30 y1 y2 y3)
  exact ⟨r, p0, p1, p2, q0, q1, q2, q3, h8, h9⟩
set_option maxHeartbeats 8000000 in
set_option maxRecDepth 100000 in
theorem kk_32 (y1 : Int32) (y2 : Int32) : mm_same (fX8_keep 700 y1 y2 0 0 0 0 0 0 0 0 0 0 0 0 0) (fX9_keep 700 y1 y2 0 z9_shelf (mm_zs 6)) = true := by
  by_cases h : 0 ≤ y1.toInt ∧ y1.toInt < 6
  · by_cases g : y2 = -1
    · subst g
      rcases rg_six y1 h.1 h.2 with e | e | e | e | e | e <;> subst e <;> rfl
    · unfold fX8_keep fX9_keep
      rw [if_neg g, if_neg g, rg_h1, rg_h9]
      rcases rg_six y1 h.1 h.2 with e | e | e | e | e | e <;> subst e <;> rfl
  · unfold fX8_keep fX9_keep
    rw [rg_s8 y1 (by omega), rg_s9 y1 (by omega)]
    rfl
set_option maxHeartbeats 8000000 in
set_option maxRecDepth 100000 in
theorem pp_32 (y1 : Int32) (y2 : Int32) : ∃ (r : Int32) (p_shelves0_holds : Int32) (p_shelves0_body : Int32) (p_shelves1_holds : Int32) (p_shelves1_body : Int32) (p_shelves2_holds : Int32) (p_shelves2_body : Int32) (p_shelves3_holds : Int32) (p_shelves3_body : Int32) (p_shelves4_holds : Int32) (p_shelves4_body : Int32) (p_shelves5_holds : Int32) (p_shelves5_body : Int32) (q_shelf : List Int32) (q_many : List Int32), fX8_keep 700 y1 y2 0 0 0 0 0 0 0 0 0 0 0 0 0 = some (r, p_shelves0_holds, p_shelves0_body, p_shelves1_holds, p_shelves1_body, p_shelves2_holds, p_shelves2_body, p_shelves3_holds, p_shelves3_body, p_shelves4_holds, p_shelves4_body, p_shelves5_holds, p_shelves5_body) ∧ fX9_keep 700 y1 y2 0 z9_shelf (mm_zs 6) = some (r, q_shelf, q_many) := by
  obtain ⟨r, ⟨p0, p1, p2, p3, p4, p5, p6, p7, p8, p9, p10, p11⟩, ⟨q0, q1⟩, h8, h9⟩ := mm_sames (kk_32 y1 y2)
  exact ⟨r, p0, p1, p2, p3, p4, p5, p6, p7, p8, p9, p10, p11, q0, q1, h8, h9⟩
set_option maxHeartbeats 8000000 in
set_option maxRecDepth 100000 in
theorem kk_12 (y1 : Int32) (y2 : Int32) (y3 : Int32) : mm_same (fX8_plans 700 y1 y2 y3 0 (mm_zs 12) (mm_zs 12) 0 0 0 (mm_zl 60) 0 0 0 (mm_zl 60) 0 0 0 (mm_zl 60) 0 0 0 (mm_zl 60) 0 0 0 (mm_zl 60) 0 0 0 (mm_zl 60)) (fX9_plans 700 y1 y2 y3 0 (mm_zs 12) (mm_zs 12) z9_shelf (mm_zs 6) (mm_zl 360)) = true := by
  by_cases h : 0 ≤ y1.toInt ∧ y1.toInt < 6
  · by_cases g : y3.toInt < 1
    · unfold fX8_plans fX9_plans
      rw [rg_wf 700 y3 (a := 1) (b := 12) (by decide) (by decide) (by omega), if_pos (rg_p (x := y3) (b := 1) (by decide) g)]
      rcases rg_six y1 h.1 h.2 with e | e | e | e | e | e <;> subst e <;> rfl
    · by_cases g' : y3.toInt ≤ 12
      · unfold fX8_plans fX9_plans
        rw [rg_wt 700 y3 (a := 1) (b := 12) (by decide) (by decide) (by omega) (by omega), if_neg (rg_n (x := y3) (b := 1) (by decide) (by omega)), if_pos (rg_ep (x := y3) (b := 12) (by decide) (by omega))]
        rcases rg_six y1 h.1 h.2 with e | e | e | e | e | e <;> subst e <;> rfl
      · unfold fX8_plans fX9_plans
        rw [rg_wf 700 y3 (a := 1) (b := 12) (by decide) (by decide) (by omega), if_neg (rg_n (x := y3) (b := 1) (by decide) (by omega)), if_neg (rg_en (x := y3) (b := 12) (by decide) (by omega))]
        rcases rg_six y1 h.1 h.2 with e | e | e | e | e | e <;> subst e <;> rfl
  · unfold fX8_plans fX9_plans
    rw [rg_s8 y1 (by omega), rg_s9 y1 (by omega)]
    rfl
set_option maxHeartbeats 8000000 in
set_option maxRecDepth 100000 in
theorem pp_12 (y1 : Int32) (y2 : Int32) (y3 : Int32) : ∃ (r : Int32) (p_planned_size : Int32) (p_planned_lines : List Int32) (p_planned_ways : List Int32) (q_planned : Int32) (q_planLine : List Int32) (q_planWay : List Int32), fX8_plans 700 y1 y2 y3 0 (mm_zs 12) (mm_zs 12) 0 0 0 (mm_zl 60) 0 0 0 (mm_zl 60) 0 0 0 (mm_zl 60) 0 0 0 (mm_zl 60) 0 0 0 (mm_zl 60) 0 0 0 (mm_zl 60) = some (r, p_planned_size, p_planned_lines, p_planned_ways) ∧ fX9_plans 700 y1 y2 y3 0 (mm_zs 12) (mm_zs 12) z9_shelf (mm_zs 6) (mm_zl 360) = some (r, q_planned, q_planLine, q_planWay) := by
  obtain ⟨r, ⟨p0, p1, p2⟩, ⟨q0, q1, q2⟩, h8, h9⟩ := mm_sames (kk_12 y1 y2 y3)
  exact ⟨r, p0, p1, p2, q0, q1, q2, h8, h9⟩
set_option maxHeartbeats 8000000 in
set_option maxRecDepth 100000 in
theorem kk_34 (y1 : Int32) (y2 : Int32) (y3 : Int32) (y4 : Int32) : mm_same (fX8_put 700 y1 y2 ((y3.toInt64 <<< ((32 : Int32).toInt64 &&& 63)) ||| (y4.toInt64 &&& (4294967295 : Int64))) 0 0 0 (mm_zl 60) 0 0 0 (mm_zl 60) 0 0 0 (mm_zl 60) 0 0 0 (mm_zl 60) 0 0 0 (mm_zl 60) 0 0 0 (mm_zl 60)) (fX9_put 700 y1 y2 ((y3.toInt64 <<< ((32 : Int32).toInt64 &&& 63)) ||| (y4.toInt64 &&& (4294967295 : Int64))) z9_shelf (mm_zs 6) (mm_zl 360)) = true := by
  by_cases h : 0 ≤ y1.toInt ∧ y1.toInt < 6
  · rcases rg_six y1 h.1 h.2 with e | e | e | e | e | e <;> subst e <;> rfl
  · unfold fX8_put fX9_put fX8_refusedElement fX9_refusal
    rw [rg_s8 y1 (by omega), rg_s9 y1 (by omega)]
    rfl
set_option maxHeartbeats 8000000 in
set_option maxRecDepth 100000 in
theorem pp_34 (y1 : Int32) (y2 : Int32) (y3 : Int32) (y4 : Int32) : ∃ (r : Int32) (p_shelves0_items : List Int64) (p_shelves1_items : List Int64) (p_shelves2_items : List Int64) (p_shelves3_items : List Int64) (p_shelves4_items : List Int64) (p_shelves5_items : List Int64) (q_items : List Int64), fX8_put 700 y1 y2 ((y3.toInt64 <<< ((32 : Int32).toInt64 &&& 63)) ||| (y4.toInt64 &&& (4294967295 : Int64))) 0 0 0 (mm_zl 60) 0 0 0 (mm_zl 60) 0 0 0 (mm_zl 60) 0 0 0 (mm_zl 60) 0 0 0 (mm_zl 60) 0 0 0 (mm_zl 60) = some (r, p_shelves0_items, p_shelves1_items, p_shelves2_items, p_shelves3_items, p_shelves4_items, p_shelves5_items) ∧ fX9_put 700 y1 y2 ((y3.toInt64 <<< ((32 : Int32).toInt64 &&& 63)) ||| (y4.toInt64 &&& (4294967295 : Int64))) z9_shelf (mm_zs 6) (mm_zl 360) = some (r, q_items) := by
  obtain ⟨r, ⟨p0, p1, p2, p3, p4, p5⟩, q0, h8, h9⟩ := mm_sames (kk_34 y1 y2 y3 y4)
  exact ⟨r, p0, p1, p2, p3, p4, p5, q0, h8, h9⟩
set_option maxHeartbeats 8000000 in
set_option maxRecDepth 100000 in
theorem kk_35 (y1 : Int32) (y2 : Int32) : mm_sameN (fX8_element 700 y1 y2 0 0 (mm_zl 60) 0 0 (mm_zl 60) 0 0 (mm_zl 60) 0 0 (mm_zl 60) 0 0 (mm_zl 60) 0 0 (mm_zl 60)) (fX9_element 700 y1 y2 z9_shelf (mm_zs 6) (mm_zl 360)) = true := by
  by_cases h : 0 ≤ y1.toInt ∧ y1.toInt < 6
  · rcases rg_six y1 h.1 h.2 with e | e | e | e | e | e <;> subst e <;> rfl
  · unfold fX8_element fX9_element fX8_refusedElement fX9_refusal
    rw [rg_s8 y1 (by omega), rg_s9 y1 (by omega)]
    rfl
set_option maxHeartbeats 8000000 in
set_option maxRecDepth 100000 in
theorem pp_35 (y1 : Int32) (y2 : Int32) : ∃ (r : Int64) , fX8_element 700 y1 y2 0 0 (mm_zl 60) 0 0 (mm_zl 60) 0 0 (mm_zl 60) 0 0 (mm_zl 60) 0 0 (mm_zl 60) 0 0 (mm_zl 60) = some r ∧ fX9_element 700 y1 y2 z9_shelf (mm_zs 6) (mm_zl 360) = some r := by
  obtain ⟨r, h8, h9⟩ := mm_sameNs (kk_35 y1 y2)
  exact ⟨r, h8, h9⟩
set_option maxHeartbeats 8000000 in
set_option maxRecDepth 100000 in
theorem kk_37 (y1 : Int32) (y2 : Int32) : mm_sameN (fX8_taken 700 y1 y2 0 (mm_zs 50) 0 0 0 0 0 0 0 0 0 0 0 0) (fX9_taken 700 y1 y2 (mm_zs 50) z9_shelf) = true := by
  by_cases h : 0 ≤ y1.toInt ∧ y1.toInt < 6
  · by_cases g : y2.toInt < 0
    · unfold fX8_taken fX9_taken
      rw [rg_wf 700 y2 (a := 0) (b := 7) (by decide) (by decide) (by omega), if_pos (rg_p (x := y2) (b := 0) (by decide) g)]
      rcases rg_six y1 h.1 h.2 with e | e | e | e | e | e <;> subst e <;> rfl
    · by_cases g' : y2.toInt < 8
      · unfold fX8_taken fX9_taken
        rw [rg_wt 700 y2 (a := 0) (b := 7) (by decide) (by decide) (by omega) (by omega), if_neg (rg_n (x := y2) (b := 0) (by decide) (by omega)), if_pos (rg_p (x := y2) (b := 8) (by decide) (by omega))]
        rcases rg_six y1 h.1 h.2 with e | e | e | e | e | e <;> subst e <;> rfl
      · unfold fX8_taken fX9_taken
        rw [rg_wf 700 y2 (a := 0) (b := 7) (by decide) (by decide) (by omega), if_neg (rg_n (x := y2) (b := 0) (by decide) (by omega)), if_neg (rg_n (x := y2) (b := 8) (by decide) (by omega))]
        rcases rg_six y1 h.1 h.2 with e | e | e | e | e | e <;> subst e <;> rfl
  · unfold fX8_taken fX9_taken
    rw [rg_s8 y1 (by omega), rg_s9 y1 (by omega)]
    rfl
set_option maxHeartbeats 8000000 in
set_option maxRecDepth 100000 in
theorem pp_37 (y1 : Int32) (y2 : Int32) : ∃ (r : Int32) , fX8_taken 700 y1 y2 0 (mm_zs 50) 0 0 0 0 0 0 0 0 0 0 0 0 = some r ∧ fX9_taken 700 y1 y2 (mm_zs 50) z9_shelf = some r := by
  obtain ⟨r, h8, h9⟩ := mm_sameNs (kk_37 y1 y2)
  exact ⟨r, h8, h9⟩
set_option maxHeartbeats 8000000 in
set_option maxRecDepth 100000 in
theorem kk_36 (y1 : Int32) (y2 : Int32) (y3 : Int32) (y4 : Int32) (y5 : Int32) : mm_same (fX8_shift 700 y1 y2 y3 y4 y5 0 0 0 (mm_zl 60) 0 0 0 (mm_zl 60) 0 0 0 (mm_zl 60) 0 0 0 (mm_zl 60) 0 0 0 (mm_zl 60) 0 0 0 (mm_zl 60)) (fX9_shift 700 y1 y2 y3 y4 y5 z9_shelf (mm_zs 6) (mm_zl 360) (mm_zl 60)) = true := by
  by_cases h : 0 ≤ y1.toInt ∧ y1.toInt < 6
  · by_cases g : 0 ≤ y3.toInt ∧ y3.toInt < 6
    · rcases rg_six y1 h.1 h.2 with e | e | e | e | e | e <;> subst e <;> rcases rg_six y3 g.1 g.2 with e | e | e | e | e | e <;> subst e <;> rfl
    · unfold fX8_shift fX9_shift
      rw [rg_s8 y3 (by omega), rg_s9 y3 (by omega)]
      rcases rg_six y1 h.1 h.2 with e | e | e | e | e | e <;> subst e <;> rfl
  · unfold fX8_shift fX9_shift
    rw [rg_s8 y1 (by omega), rg_s9 y1 (by omega)]
    rfl
set_option maxHeartbeats 8000000 in
set_option maxRecDepth 100000 in
theorem pp_36 (y1 : Int32) (y2 : Int32) (y3 : Int32) (y4 : Int32) (y5 : Int32) : ∃ (r : Int32) (p_shelves0_items : List Int64) (p_shelves1_items : List Int64) (p_shelves2_items : List Int64) (p_shelves3_items : List Int64) (p_shelves4_items : List Int64) (p_shelves5_items : List Int64) (q_items : List Int64) (q_carried : List Int64), fX8_shift 700 y1 y2 y3 y4 y5 0 0 0 (mm_zl 60) 0 0 0 (mm_zl 60) 0 0 0 (mm_zl 60) 0 0 0 (mm_zl 60) 0 0 0 (mm_zl 60) 0 0 0 (mm_zl 60) = some (r, p_shelves0_items, p_shelves1_items, p_shelves2_items, p_shelves3_items, p_shelves4_items, p_shelves5_items) ∧ fX9_shift 700 y1 y2 y3 y4 y5 z9_shelf (mm_zs 6) (mm_zl 360) (mm_zl 60) = some (r, q_items, q_carried) := by
  obtain ⟨r, ⟨p0, p1, p2, p3, p4, p5⟩, ⟨q0, q1⟩, h8, h9⟩ := mm_sames (kk_36 y1 y2 y3 y4 y5)
  exact ⟨r, p0, p1, p2, p3, p4, p5, q0, q1, h8, h9⟩
set_option maxHeartbeats 8000000 in
set_option maxRecDepth 100000 in
theorem kk_7 (y1 : Int32) : mm_sameN (fX8_shape 700 y1 2 4 2 4 (mm_zs 32)) (fX9_shape 700 y1 2 4 z9_shapeRows z9_shapeColumns (mm_zs 192)) = true := by
  by_cases h : 0 ≤ y1.toInt ∧ y1.toInt < 3
  · exact rg_all (fun y => mm_sameN (fX8_shape 700 y 2 4 2 4 (mm_zs 32)) (fX9_shape 700 y 2 4 z9_shapeRows z9_shapeColumns (mm_zs 192))) 3 (by decide +kernel) y1 h.1 h.2
  · have e : fX9_shape 700 y1 2 4 z9_shapeRows z9_shapeColumns (mm_zs 192) = (if y1 = 0 then some 2 else if y1 = 1 then some 4 else if y1 = 2 then some 1 else some (-1)) := rfl
    rw [e]
    unfold fX8_shape
    have n0 : ¬ y1 = 0 := rg_qn (b := 0) (by decide) (by omega)
    have n1 : ¬ y1 = 1 := rg_qn (b := 1) (by decide) (by omega)
    have n2 : ¬ y1 = 2 := rg_qn (b := 2) (by decide) (by omega)
    rw [if_neg n0, if_neg n1, if_neg n2, if_neg n0, if_neg n1, if_neg n2]
    rfl
set_option maxHeartbeats 8000000 in
set_option maxRecDepth 100000 in
theorem pp_7 (y1 : Int32) : ∃ (r : Int32) , fX8_shape 700 y1 2 4 2 4 (mm_zs 32) = some r ∧ fX9_shape 700 y1 2 4 z9_shapeRows z9_shapeColumns (mm_zs 192) = some r := by
  obtain ⟨r, h8, h9⟩ := mm_sameNs (kk_7 y1)
  exact ⟨r, h8, h9⟩
set_option maxHeartbeats 8000000 in
set_option maxRecDepth 100000 in
theorem kk_8 (y1 : Int32) (y2 : Int32) : mm_sameN (fX8_where 700 y1 y2 2 4 z5_rowOf z5_colOf (mm_zs 32) (mm_zs 32)) (fX9_where 700 y1 y2 2 4 z9_row z9_column (mm_zs 192) (mm_zs 192)) = true := by
  by_cases h : 0 ≤ y1.toInt ∧ y1.toInt < 8
  · by_cases g : 0 ≤ y2.toInt ∧ y2.toInt < 4
    · exact rg_all2 (fun y z => mm_sameN (fX8_where 700 y z 2 4 z5_rowOf z5_colOf (mm_zs 32) (mm_zs 32)) (fX9_where 700 y z 2 4 z9_row z9_column (mm_zs 192) (mm_zs 192))) 8 4 (by decide +kernel) y1 y2 h.1 h.2 g.1 g.2
    · unfold fX8_where fX9_where fX5_placeOf
      rw [rg_f5t y1 h.1 h.2, rg_f9t y1 h.1 h.2, rg_wf 700 y2 (a := 0) (b := 3) (by decide) (by decide) (by omega), if_neg (rg_qn (x := y2) (b := 0) (by decide) (by omega)), if_neg (rg_qn (x := y2) (b := 1) (by decide) (by omega)), if_neg (rg_qn (x := y2) (b := 2) (by decide) (by omega)), if_neg (rg_qn (x := y2) (b := 3) (by decide) (by omega))]
      rfl
  · unfold fX8_where fX9_where fX5_placeOf
    rw [rg_f5f y1 (by omega), rg_f9f y1 (by omega)]
    rfl
set_option maxHeartbeats 8000000 in
set_option maxRecDepth 100000 in
theorem pp_8 (y1 : Int32) (y2 : Int32) : ∃ (r : Int32) , fX8_where 700 y1 y2 2 4 z5_rowOf z5_colOf (mm_zs 32) (mm_zs 32) = some r ∧ fX9_where 700 y1 y2 2 4 z9_row z9_column (mm_zs 192) (mm_zs 192) = some r := by
  obtain ⟨r, h8, h9⟩ := mm_sameNs (kk_8 y1 y2)
  exact ⟨r, h8, h9⟩
