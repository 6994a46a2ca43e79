section
/-! shift -/
set_option maxHeartbeats 4000000 in
set_option maxRecDepth 20000 in
theorem rs_shift_it {x1 : Int32} {x2 : Int32} {x3 : Int32} {x4 : Int32} {x5 : Int32} {v_shelves0_holds : Int32} {v_shelves0_sort : Int32} {v_shelves0_size : Int32} {v_shelves0_items : List Int64} {v_shelves1_holds : Int32} {v_shelves1_sort : Int32} {v_shelves1_size : Int32} {v_shelves1_items : List Int64} {v_shelves2_holds : Int32} {v_shelves2_sort : Int32} {v_shelves2_size : Int32} {v_shelves2_items : List Int64} {v_shelves3_holds : Int32} {v_shelves3_sort : Int32} {v_shelves3_size : Int32} {v_shelves3_items : List Int64} {v_shelves4_holds : Int32} {v_shelves4_sort : Int32} {v_shelves4_size : Int32} {v_shelves4_items : List Int64} {v_shelves5_holds : Int32} {v_shelves5_sort : Int32} {v_shelves5_size : Int32} {v_shelves5_items : List Int64} {v_foldings_size : Int32} {v_shelves0_body : Int32} {v_shelves1_body : Int32} {v_shelves2_body : Int32} {v_shelves3_body : Int32} {v_shelves4_body : Int32} {v_shelves5_body : Int32} {m_shelf : List Int32} {m_many : List Int32} {m_items : List Int64} {m_carried : List Int64} (g8_0 : gi_sf v_shelves0_size v_shelves0_items) (g8_1 : gi_sf v_shelves1_size v_shelves1_items) (g8_2 : gi_sf v_shelves2_size v_shelves2_items) (g8_3 : gi_sf v_shelves3_size v_shelves3_items) (g8_4 : gi_sf v_shelves4_size v_shelves4_items) (g8_5 : gi_sf v_shelves5_size v_shelves5_items) (g9_0 : gm_sf m_shelf m_many m_items m_carried) (hr_0 : rl_sc v_foldings_size v_shelves0_holds v_shelves0_body v_shelves0_sort v_shelves0_size v_shelves1_holds v_shelves1_body v_shelves1_sort v_shelves1_size v_shelves2_holds v_shelves2_body v_shelves2_sort v_shelves2_size v_shelves3_holds v_shelves3_body v_shelves3_sort v_shelves3_size v_shelves4_holds v_shelves4_body v_shelves4_sort v_shelves4_size v_shelves5_holds v_shelves5_body v_shelves5_sort v_shelves5_size m_shelf m_many) (hr_1 : rl_it v_shelves0_items v_shelves1_items v_shelves2_items v_shelves3_items v_shelves4_items v_shelves5_items m_items) : ∃ (r : Int32) (p_shelves0_items : List Int64) (p_shelves1_items : List Int64) (p_shelves2_items : List Int64) (p_shelves3_items : List Int64) (p_shelves4_items : List Int64) (p_shelves5_items : List Int64) (q_items : List Int64) (q_carried : List Int64), fX8_shift 700 x1 x2 x3 x4 x5 v_shelves0_holds v_shelves0_sort v_shelves0_size v_shelves0_items v_shelves1_holds v_shelves1_sort v_shelves1_size v_shelves1_items v_shelves2_holds v_shelves2_sort v_shelves2_size v_shelves2_items v_shelves3_holds v_shelves3_sort v_shelves3_size v_shelves3_items v_shelves4_holds v_shelves4_sort v_shelves4_size v_shelves4_items v_shelves5_holds v_shelves5_sort v_shelves5_size v_shelves5_items = some (r, p_shelves0_items, p_shelves1_items, p_shelves2_items, p_shelves3_items, p_shelves4_items, p_shelves5_items) ∧ fX9_shift 700 x1 x2 x3 x4 x5 m_shelf m_many m_items m_carried = some (r, q_items, q_carried) ∧ gi_sf v_shelves0_size p_shelves0_items ∧ gi_sf v_shelves1_size p_shelves1_items ∧ gi_sf v_shelves2_size p_shelves2_items ∧ gi_sf v_shelves3_size p_shelves3_items ∧ gi_sf v_shelves4_size p_shelves4_items ∧ gi_sf v_shelves5_size p_shelves5_items ∧ gm_sf m_shelf m_many q_items q_carried ∧ rl_sc v_foldings_size v_shelves0_holds v_shelves0_body v_shelves0_sort v_shelves0_size v_shelves1_holds v_shelves1_body v_shelves1_sort v_shelves1_size v_shelves2_holds v_shelves2_body v_shelves2_sort v_shelves2_size v_shelves3_holds v_shelves3_body v_shelves3_sort v_shelves3_size v_shelves4_holds v_shelves4_body v_shelves4_sort v_shelves4_size v_shelves5_holds v_shelves5_body v_shelves5_sort v_shelves5_size m_shelf m_many ∧ rl_it p_shelves0_items p_shelves1_items p_shelves2_items p_shelves3_items p_shelves4_items p_shelves5_items q_items := by
  obtain ⟨b0, b1, b2, b3, b4⟩ := id g9_0
  obtain ⟨a0, d0, l0⟩ := id g8_0
  obtain ⟨a1, d1, l1⟩ := id g8_1
  obtain ⟨a2, d2, l2⟩ := id g8_2
  obtain ⟨a3, d3, l3⟩ := id g8_3
  obtain ⟨a4, d4, l4⟩ := id g8_4
  obtain ⟨a5, d5, l5⟩ := id g8_5
  obtain ⟨c0, c1, c2, c3, c4, c5⟩ := id hr_0
  obtain ⟨t0, t1, t2, t3, t4, t5⟩ := id hr_1
  have tf : ¬ (true = false) := by decide
  have X : ∃ (r : Int32) (p0 p1 p2 p3 p4 p5 q q' : List Int64), fX8_shift 700 x1 x2 x3 x4 x5 v_shelves0_holds v_shelves0_sort v_shelves0_size v_shelves0_items v_shelves1_holds v_shelves1_sort v_shelves1_size v_shelves1_items v_shelves2_holds v_shelves2_sort v_shelves2_size v_shelves2_items v_shelves3_holds v_shelves3_sort v_shelves3_size v_shelves3_items v_shelves4_holds v_shelves4_sort v_shelves4_size v_shelves4_items v_shelves5_holds v_shelves5_sort v_shelves5_size v_shelves5_items = some (r, p0, p1, p2, p3, p4, p5) ∧ fX9_shift 700 x1 x2 x3 x4 x5 m_shelf m_many m_items m_carried = some (r, q, q') ∧ rl_it p0 p1 p2 p3 p4 p5 q := by
    by_cases hx : 0 ≤ x1.toInt ∧ x1.toInt ≤ 5
    · by_cases hy : 0 ≤ x3.toInt ∧ x3.toInt ≤ 5
      · unfold fX8_shift
        rw [sh8_e x1, bs_1, decide_eq_true hx, if_neg tf, sh8_e x3, bs_1, decide_eq_true hy, if_neg tf]
        rcases k6 hx.1 hx.2 with rfl | rfl | rfl | rfl | rfl | rfl
        · rw [if_pos (rfl : (0 : Int32) = 0)]
          rcases k6 hy.1 hy.2 with rfl | rfl | rfl | rfl | rfl | rfl
          · rw [if_pos (rfl : (0 : Int32) = 0)]
            rcases sh_fin (x2 := x2) (x4 := x4) (x5 := x5) (fun z => (z, v_shelves0_items, v_shelves1_items, v_shelves2_items, v_shelves3_items, v_shelves4_items, v_shelves5_items)) (fun l => (x5, l, v_shelves1_items, v_shelves2_items, v_shelves3_items, v_shelves4_items, v_shelves5_items)) hx hy b0 b1 b2 b3 a0 d0 a0 d0 l0 l0 c0 c0 with ⟨r, e8, e9⟩ | ⟨w, w', e8, e9, hw, u1, u2, u3, u4, u5⟩
            · exact ⟨_, _, _, _, _, _, _, _, _, e8, e9, hr_1⟩
            · exact ⟨_, _, _, _, _, _, _, _, _, e8, e9, ⟨it_cp (show (0 : Int32).toInt = ((0 : Nat) : Int) by decide) (show (0 : Int32).toInt = ((0 : Nat) : Int) by decide) (by decide) (by decide) l0 l0 hw u1 u2 u3 u4 u5 t0 t0, it_ne (show (0 : Int32).toInt = ((0 : Nat) : Int) by decide) (by decide) (by decide) (by decide) hw u3 u4 t1, it_ne (show (0 : Int32).toInt = ((0 : Nat) : Int) by decide) (by decide) (by decide) (by decide) hw u3 u4 t2, it_ne (show (0 : Int32).toInt = ((0 : Nat) : Int) by decide) (by decide) (by decide) (by decide) hw u3 u4 t3, it_ne (show (0 : Int32).toInt = ((0 : Nat) : Int) by decide) (by decide) (by decide) (by decide) hw u3 u4 t4, it_ne (show (0 : Int32).toInt = ((0 : Nat) : Int) by decide) (by decide) (by decide) (by decide) hw u3 u4 t5⟩⟩
          · rw [if_neg (show ¬ (1 : Int32) = 0 by decide), if_pos (rfl : (1 : Int32) = 1)]
            rcases sh_fin (x2 := x2) (x4 := x4) (x5 := x5) (fun z => (z, v_shelves0_items, v_shelves1_items, v_shelves2_items, v_shelves3_items, v_shelves4_items, v_shelves5_items)) (fun l => (x5, v_shelves0_items, l, v_shelves2_items, v_shelves3_items, v_shelves4_items, v_shelves5_items)) hx hy b0 b1 b2 b3 a0 d0 a1 d1 l0 l1 c0 c1 with ⟨r, e8, e9⟩ | ⟨w, w', e8, e9, hw, u1, u2, u3, u4, u5⟩
            · exact ⟨_, _, _, _, _, _, _, _, _, e8, e9, hr_1⟩
            · exact ⟨_, _, _, _, _, _, _, _, _, e8, e9, ⟨it_ne (show (1 : Int32).toInt = ((1 : Nat) : Int) by decide) (by decide) (by decide) (by decide) hw u3 u4 t0, it_cp (show (0 : Int32).toInt = ((0 : Nat) : Int) by decide) (show (1 : Int32).toInt = ((1 : Nat) : Int) by decide) (by decide) (by decide) l0 l1 hw u1 u2 u3 u4 u5 t0 t1, it_ne (show (1 : Int32).toInt = ((1 : Nat) : Int) by decide) (by decide) (by decide) (by decide) hw u3 u4 t2, it_ne (show (1 : Int32).toInt = ((1 : Nat) : Int) by decide) (by decide) (by decide) (by decide) hw u3 u4 t3, it_ne (show (1 : Int32).toInt = ((1 : Nat) : Int) by decide) (by decide) (by decide) (by decide) hw u3 u4 t4, it_ne (show (1 : Int32).toInt = ((1 : Nat) : Int) by decide) (by decide) (by decide) (by decide) hw u3 u4 t5⟩⟩
          · rw [if_neg (show ¬ (2 : Int32) = 0 by decide), if_neg (show ¬ (2 : Int32) = 1 by decide), if_pos (rfl : (2 : Int32) = 2)]
            rcases sh_fin (x2 := x2) (x4 := x4) (x5 := x5) (fun z => (z, v_shelves0_items, v_shelves1_items, v_shelves2_items, v_shelves3_items, v_shelves4_items, v_shelves5_items)) (fun l => (x5, v_shelves0_items, v_shelves1_items, l, v_shelves3_items, v_shelves4_items, v_shelves5_items)) hx hy b0 b1 b2 b3 a0 d0 a2 d2 l0 l2 c0 c2 with ⟨r, e8, e9⟩ | ⟨w, w', e8, e9, hw, u1, u2, u3, u4, u5⟩
            · exact ⟨_, _, _, _, _, _, _, _, _, e8, e9, hr_1⟩
            · exact ⟨_, _, _, _, _, _, _, _, _, e8, e9, ⟨it_ne (show (2 : Int32).toInt = ((2 : Nat) : Int) by decide) (by decide) (by decide) (by decide) hw u3 u4 t0, it_ne (show (2 : Int32).toInt = ((2 : Nat) : Int) by decide) (by decide) (by decide) (by decide) hw u3 u4 t1, it_cp (show (0 : Int32).toInt = ((0 : Nat) : Int) by decide) (show (2 : Int32).toInt = ((2 : Nat) : Int) by decide) (by decide) (by decide) l0 l2 hw u1 u2 u3 u4 u5 t0 t2, it_ne (show (2 : Int32).toInt = ((2 : Nat) : Int) by decide) (by decide) (by decide) (by decide) hw u3 u4 t3, it_ne (show (2 : Int32).toInt = ((2 : Nat) : Int) by decide) (by decide) (by decide) (by decide) hw u3 u4 t4, it_ne (show (2 : Int32).toInt = ((2 : Nat) : Int) by decide) (by decide) (by decide) (by decide) hw u3 u4 t5⟩⟩
          · rw [if_neg (show ¬ (3 : Int32) = 0 by decide), if_neg (show ¬ (3 : Int32) = 1 by decide), if_neg (show ¬ (3 : Int32) = 2 by decide), if_pos (rfl : (3 : Int32) = 3)]
            rcases sh_fin (x2 := x2) (x4 := x4) (x5 := x5) (fun z => (z, v_shelves0_items, v_shelves1_items, v_shelves2_items, v_shelves3_items, v_shelves4_items, v_shelves5_items)) (fun l => (x5, v_shelves0_items, v_shelves1_items, v_shelves2_items, l, v_shelves4_items, v_shelves5_items)) hx hy b0 b1 b2 b3 a0 d0 a3 d3 l0 l3 c0 c3 with ⟨r, e8, e9⟩ | ⟨w, w', e8, e9, hw, u1, u2, u3, u4, u5⟩
            · exact ⟨_, _, _, _, _, _, _, _, _, e8, e9, hr_1⟩
            · exact ⟨_, _, _, _, _, _, _, _, _, e8, e9, ⟨it_ne (show (3 : Int32).toInt = ((3 : Nat) : Int) by decide) (by decide) (by decide) (by decide) hw u3 u4 t0, it_ne (show (3 : Int32).toInt = ((3 : Nat) : Int) by decide) (by decide) (by decide) (by decide) hw u3 u4 t1, it_ne (show (3 : Int32).toInt = ((3 : Nat) : Int) by decide) (by decide) (by decide) (by decide) hw u3 u4 t2, it_cp (show (0 : Int32).toInt = ((0 : Nat) : Int) by decide) (show (3 : Int32).toInt = ((3 : Nat) : Int) by decide) (by decide) (by decide) l0 l3 hw u1 u2 u3 u4 u5 t0 t3, it_ne (show (3 : Int32).toInt = ((3 : Nat) : Int) by decide) (by decide) (by decide) (by decide) hw u3 u4 t4, it_ne (show (3 : Int32).toInt = ((3 : Nat) : Int) by decide) (by decide) (by decide) (by decide) hw u3 u4 t5⟩⟩
          · rw [if_neg (show ¬ (4 : Int32) = 0 by decide), if_neg (show ¬ (4 : Int32) = 1 by decide), if_neg (show ¬ (4 : Int32) = 2 by decide), if_neg (show ¬ (4 : Int32) = 3 by decide), if_pos (rfl : (4 : Int32) = 4)]
            rcases sh_fin (x2 := x2) (x4 := x4) (x5 := x5) (fun z => (z, v_shelves0_items, v_shelves1_items, v_shelves2_items, v_shelves3_items, v_shelves4_items, v_shelves5_items)) (fun l => (x5, v_shelves0_items, v_shelves1_items, v_shelves2_items, v_shelves3_items, l, v_shelves5_items)) hx hy b0 b1 b2 b3 a0 d0 a4 d4 l0 l4 c0 c4 with ⟨r, e8, e9⟩ | ⟨w, w', e8, e9, hw, u1, u2, u3, u4, u5⟩
            · exact ⟨_, _, _, _, _, _, _, _, _, e8, e9, hr_1⟩
            · exact ⟨_, _, _, _, _, _, _, _, _, e8, e9, ⟨it_ne (show (4 : Int32).toInt = ((4 : Nat) : Int) by decide) (by decide) (by decide) (by decide) hw u3 u4 t0, it_ne (show (4 : Int32).toInt = ((4 : Nat) : Int) by decide) (by decide) (by decide) (by decide) hw u3 u4 t1, it_ne (show (4 : Int32).toInt = ((4 : Nat) : Int) by decide) (by decide) (by decide) (by decide) hw u3 u4 t2, it_ne (show (4 : Int32).toInt = ((4 : Nat) : Int) by decide) (by decide) (by decide) (by decide) hw u3 u4 t3, it_cp (show (0 : Int32).toInt = ((0 : Nat) : Int) by decide) (show (4 : Int32).toInt = ((4 : Nat) : Int) by decide) (by decide) (by decide) l0 l4 hw u1 u2 u3 u4 u5 t0 t4, it_ne (show (4 : Int32).toInt = ((4 : Nat) : Int) by decide) (by decide) (by decide) (by decide) hw u3 u4 t5⟩⟩
          · rw [if_neg (show ¬ (5 : Int32) = 0 by decide), if_neg (show ¬ (5 : Int32) = 1 by decide), if_neg (show ¬ (5 : Int32) = 2 by decide), if_neg (show ¬ (5 : Int32) = 3 by decide), if_neg (show ¬ (5 : Int32) = 4 by decide), if_pos (rfl : (5 : Int32) = 5)]
            rcases sh_fin (x2 := x2) (x4 := x4) (x5 := x5) (fun z => (z, v_shelves0_items, v_shelves1_items, v_shelves2_items, v_shelves3_items, v_shelves4_items, v_shelves5_items)) (fun l => (x5, v_shelves0_items, v_shelves1_items, v_shelves2_items, v_shelves3_items, v_shelves4_items, l)) hx hy b0 b1 b2 b3 a0 d0 a5 d5 l0 l5 c0 c5 with ⟨r, e8, e9⟩ | ⟨w, w', e8, e9, hw, u1, u2, u3, u4, u5⟩
            · exact ⟨_, _, _, _, _, _, _, _, _, e8, e9, hr_1⟩
            · exact ⟨_, _, _, _, _, _, _, _, _, e8, e9, ⟨it_ne (show (5 : Int32).toInt = ((5 : Nat) : Int) by decide) (by decide) (by decide) (by decide) hw u3 u4 t0, it_ne (show (5 : Int32).toInt = ((5 : Nat) : Int) by decide) (by decide) (by decide) (by decide) hw u3 u4 t1, it_ne (show (5 : Int32).toInt = ((5 : Nat) : Int) by decide) (by decide) (by decide) (by decide) hw u3 u4 t2, it_ne (show (5 : Int32).toInt = ((5 : Nat) : Int) by decide) (by decide) (by decide) (by decide) hw u3 u4 t3, it_ne (show (5 : Int32).toInt = ((5 : Nat) : Int) by decide) (by decide) (by decide) (by decide) hw u3 u4 t4, it_cp (show (0 : Int32).toInt = ((0 : Nat) : Int) by decide) (show (5 : Int32).toInt = ((5 : Nat) : Int) by decide) (by decide) (by decide) l0 l5 hw u1 u2 u3 u4 u5 t0 t5⟩⟩
        · rw [if_neg (show ¬ (1 : Int32) = 0 by decide), if_pos (rfl : (1 : Int32) = 1)]
          rcases k6 hy.1 hy.2 with rfl | rfl | rfl | rfl | rfl | rfl
          · rw [if_pos (rfl : (0 : Int32) = 0)]
            rcases sh_fin (x2 := x2) (x4 := x4) (x5 := x5) (fun z => (z, v_shelves0_items, v_shelves1_items, v_shelves2_items, v_shelves3_items, v_shelves4_items, v_shelves5_items)) (fun l => (x5, l, v_shelves1_items, v_shelves2_items, v_shelves3_items, v_shelves4_items, v_shelves5_items)) hx hy b0 b1 b2 b3 a1 d1 a0 d0 l1 l0 c1 c0 with ⟨r, e8, e9⟩ | ⟨w, w', e8, e9, hw, u1, u2, u3, u4, u5⟩
            · exact ⟨_, _, _, _, _, _, _, _, _, e8, e9, hr_1⟩
            · exact ⟨_, _, _, _, _, _, _, _, _, e8, e9, ⟨it_cp (show (1 : Int32).toInt = ((1 : Nat) : Int) by decide) (show (0 : Int32).toInt = ((0 : Nat) : Int) by decide) (by decide) (by decide) l1 l0 hw u1 u2 u3 u4 u5 t1 t0, it_ne (show (0 : Int32).toInt = ((0 : Nat) : Int) by decide) (by decide) (by decide) (by decide) hw u3 u4 t1, it_ne (show (0 : Int32).toInt = ((0 : Nat) : Int) by decide) (by decide) (by decide) (by decide) hw u3 u4 t2, it_ne (show (0 : Int32).toInt = ((0 : Nat) : Int) by decide) (by decide) (by decide) (by decide) hw u3 u4 t3, it_ne (show (0 : Int32).toInt = ((0 : Nat) : Int) by decide) (by decide) (by decide) (by decide) hw u3 u4 t4, it_ne (show (0 : Int32).toInt = ((0 : Nat) : Int) by decide) (by decide) (by decide) (by decide) hw u3 u4 t5⟩⟩
          · rw [if_neg (show ¬ (1 : Int32) = 0 by decide), if_pos (rfl : (1 : Int32) = 1)]
            rcases sh_fin (x2 := x2) (x4 := x4) (x5 := x5) (fun z => (z, v_shelves0_items, v_shelves1_items, v_shelves2_items, v_shelves3_items, v_shelves4_items, v_shelves5_items)) (fun l => (x5, v_shelves0_items, l, v_shelves2_items, v_shelves3_items, v_shelves4_items, v_shelves5_items)) hx hy b0 b1 b2 b3 a1 d1 a1 d1 l1 l1 c1 c1 with ⟨r, e8, e9⟩ | ⟨w, w', e8, e9, hw, u1, u2, u3, u4, u5⟩
            · exact ⟨_, _, _, _, _, _, _, _, _, e8, e9, hr_1⟩
            · exact ⟨_, _, _, _, _, _, _, _, _, e8, e9, ⟨it_ne (show (1 : Int32).toInt = ((1 : Nat) : Int) by decide) (by decide) (by decide) (by decide) hw u3 u4 t0, it_cp (show (1 : Int32).toInt = ((1 : Nat) : Int) by decide) (show (1 : Int32).toInt = ((1 : Nat) : Int) by decide) (by decide) (by decide) l1 l1 hw u1 u2 u3 u4 u5 t1 t1, it_ne (show (1 : Int32).toInt = ((1 : Nat) : Int) by decide) (by decide) (by decide) (by decide) hw u3 u4 t2, it_ne (show (1 : Int32).toInt = ((1 : Nat) : Int) by decide) (by decide) (by decide) (by decide) hw u3 u4 t3, it_ne (show (1 : Int32).toInt = ((1 : Nat) : Int) by decide) (by decide) (by decide) (by decide) hw u3 u4 t4, it_ne (show (1 : Int32).toInt = ((1 : Nat) : Int) by decide) (by decide) (by decide) (by decide) hw u3 u4 t5⟩⟩
          · rw [if_neg (show ¬ (2 : Int32) = 0 by decide), if_neg (show ¬ (2 : Int32) = 1 by decide), if_pos (rfl : (2 : Int32) = 2)]
            rcases sh_fin (x2 := x2) (x4 := x4) (x5 := x5) (fun z => (z, v_shelves0_items, v_shelves1_items, v_shelves2_items, v_shelves3_items, v_shelves4_items, v_shelves5_items)) (fun l => (x5, v_shelves0_items, v_shelves1_items, l, v_shelves3_items, v_shelves4_items, v_shelves5_items)) hx hy b0 b1 b2 b3 a1 d1 a2 d2 l1 l2 c1 c2 with ⟨r, e8, e9⟩ | ⟨w, w', e8, e9, hw, u1, u2, u3, u4, u5⟩
            · exact ⟨_, _, _, _, _, _, _, _, _, e8, e9, hr_1⟩
            · exact ⟨_, _, _, _, _, _, _, _, _, e8, e9, ⟨it_ne (show (2 : Int32).toInt = ((2 : Nat) : Int) by decide) (by decide) (by decide) (by decide) hw u3 u4 t0, it_ne (show (2 : Int32).toInt = ((2 : Nat) : Int) by decide) (by decide) (by decide) (by decide) hw u3 u4 t1, it_cp (show (1 : Int32).toInt = ((1 : Nat) : Int) by decide) (show (2 : Int32).toInt = ((2 : Nat) : Int) by decide) (by decide) (by decide) l1 l2 hw u1 u2 u3 u4 u5 t1 t2, it_ne (show (2 : Int32).toInt = ((2 : Nat) : Int) by decide) (by decide) (by decide) (by decide) hw u3 u4 t3, it_ne (show (2 : Int32).toInt = ((2 : Nat) : Int) by decide) (by decide) (by decide) (by decide) hw u3 u4 t4, it_ne (show (2 : Int32).toInt = ((2 : Nat) : Int) by decide) (by decide) (by decide) (by decide) hw u3 u4 t5⟩⟩
          · rw [if_neg (show ¬ (3 : Int32) = 0 by decide), if_neg (show ¬ (3 : Int32) = 1 by decide), if_neg (show ¬ (3 : Int32) = 2 by decide), if_pos (rfl : (3 : Int32) = 3)]
            rcases sh_fin (x2 := x2) (x4 := x4) (x5 := x5) (fun z => (z, v_shelves0_items, v_shelves1_items, v_shelves2_items, v_shelves3_items, v_shelves4_items, v_shelves5_items)) (fun l => (x5, v_shelves0_items, v_shelves1_items, v_shelves2_items, l, v_shelves4_items, v_shelves5_items)) hx hy b0 b1 b2 b3 a1 d1 a3 d3 l1 l3 c1 c3 with ⟨r, e8, e9⟩ | ⟨w, w', e8, e9, hw, u1, u2, u3, u4, u5⟩
            · exact ⟨_, _, _, _, _, _, _, _, _, e8, e9, hr_1⟩
            · exact ⟨_, _, _, _, _, _, _, _, _, e8, e9, ⟨it_ne (show (3 : Int32).toInt = ((3 : Nat) : Int) by decide) (by decide) (by decide) (by decide) hw u3 u4 t0, it_ne (show (3 : Int32).toInt = ((3 : Nat) : Int) by decide) (by decide) (by decide) (by decide) hw u3 u4 t1, it_ne (show (3 : Int32).toInt = ((3 : Nat) : Int) by decide) (by decide) (by decide) (by decide) hw u3 u4 t2, it_cp (show (1 : Int32).toInt = ((1 : Nat) : Int) by decide) (show (3 : Int32).toInt = ((3 : Nat) : Int) by decide) (by decide) (by decide) l1 l3 hw u1 u2 u3 u4 u5 t1 t3, it_ne (show (3 : Int32).toInt = ((3 : Nat) : Int) by decide) (by decide) (by decide) (by decide) hw u3 u4 t4, it_ne (show (3 : Int32).toInt = ((3 : Nat) : Int) by decide) (by decide) (by decide) (by decide) hw u3 u4 t5⟩⟩
          · rw [if_neg (show ¬ (4 : Int32) = 0 by decide), if_neg (show ¬ (4 : Int32) = 1 by decide), if_neg (show ¬ (4 : Int32) = 2 by decide), if_neg (show ¬ (4 : Int32) = 3 by decide), if_pos (rfl : (4 : Int32) = 4)]
            rcases sh_fin (x2 := x2) (x4 := x4) (x5 := x5) (fun z => (z, v_shelves0_items, v_shelves1_items, v_shelves2_items, v_shelves3_items, v_shelves4_items, v_shelves5_items)) (fun l => (x5, v_shelves0_items, v_shelves1_items, v_shelves2_items, v_shelves3_items, l, v_shelves5_items)) hx hy b0 b1 b2 b3 a1 d1 a4 d4 l1 l4 c1 c4 with ⟨r, e8, e9⟩ | ⟨w, w', e8, e9, hw, u1, u2, u3, u4, u5⟩
            · exact ⟨_, _, _, _, _, _, _, _, _, e8, e9, hr_1⟩
            · exact ⟨_, _, _, _, _, _, _, _, _, e8, e9, ⟨it_ne (show (4 : Int32).toInt = ((4 : Nat) : Int) by decide) (by decide) (by decide) (by decide) hw u3 u4 t0, it_ne (show (4 : Int32).toInt = ((4 : Nat) : Int) by decide) (by decide) (by decide) (by decide) hw u3 u4 t1, it_ne (show (4 : Int32).toInt = ((4 : Nat) : Int) by decide) (by decide) (by decide) (by decide) hw u3 u4 t2, it_ne (show (4 : Int32).toInt = ((4 : Nat) : Int) by decide) (by decide) (by decide) (by decide) hw u3 u4 t3, it_cp (show (1 : Int32).toInt = ((1 : Nat) : Int) by decide) (show (4 : Int32).toInt = ((4 : Nat) : Int) by decide) (by decide) (by decide) l1 l4 hw u1 u2 u3 u4 u5 t1 t4, it_ne (show (4 : Int32).toInt = ((4 : Nat) : Int) by decide) (by decide) (by decide) (by decide) hw u3 u4 t5⟩⟩
          · rw [if_neg (show ¬ (5 : Int32) = 0 by decide), if_neg (show ¬ (5 : Int32) = 1 by decide), if_neg (show ¬ (5 : Int32) = 2 by decide), if_neg (show ¬ (5 : Int32) = 3 by decide), if_neg (show ¬ (5 : Int32) = 4 by decide), if_pos (rfl : (5 : Int32) = 5)]
            rcases sh_fin (x2 := x2) (x4 := x4) (x5 := x5) (fun z => (z, v_shelves0_items, v_shelves1_items, v_shelves2_items, v_shelves3_items, v_shelves4_items, v_shelves5_items)) (fun l => (x5, v_shelves0_items, v_shelves1_items, v_shelves2_items, v_shelves3_items, v_shelves4_items, l)) hx hy b0 b1 b2 b3 a1 d1 a5 d5 l1 l5 c1 c5 with ⟨r, e8, e9⟩ | ⟨w, w', e8, e9, hw, u1, u2, u3, u4, u5⟩
            · exact ⟨_, _, _, _, _, _, _, _, _, e8, e9, hr_1⟩
            · exact ⟨_, _, _, _, _, _, _, _, _, e8, e9, ⟨it_ne (show (5 : Int32).toInt = ((5 : Nat) : Int) by decide) (by decide) (by decide) (by decide) hw u3 u4 t0, it_ne (show (5 : Int32).toInt = ((5 : Nat) : Int) by decide) (by decide) (by decide) (by decide) hw u3 u4 t1, it_ne (show (5 : Int32).toInt = ((5 : Nat) : Int) by decide) (by decide) (by decide) (by decide) hw u3 u4 t2, it_ne (show (5 : Int32).toInt = ((5 : Nat) : Int) by decide) (by decide) (by decide) (by decide) hw u3 u4 t3, it_ne (show (5 : Int32).toInt = ((5 : Nat) : Int) by decide) (by decide) (by decide) (by decide) hw u3 u4 t4, it_cp (show (1 : Int32).toInt = ((1 : Nat) : Int) by decide) (show (5 : Int32).toInt = ((5 : Nat) : Int) by decide) (by decide) (by decide) l1 l5 hw u1 u2 u3 u4 u5 t1 t5⟩⟩
        · rw [if_neg (show ¬ (2 : Int32) = 0 by decide), if_neg (show ¬ (2 : Int32) = 1 by decide), if_pos (rfl : (2 : Int32) = 2)]
          rcases k6 hy.1 hy.2 with rfl | rfl | rfl | rfl | rfl | rfl
          · rw [if_pos (rfl : (0 : Int32) = 0)]
            rcases sh_fin (x2 := x2) (x4 := x4) (x5 := x5) (fun z => (z, v_shelves0_items, v_shelves1_items, v_shelves2_items, v_shelves3_items, v_shelves4_items, v_shelves5_items)) (fun l => (x5, l, v_shelves1_items, v_shelves2_items, v_shelves3_items, v_shelves4_items, v_shelves5_items)) hx hy b0 b1 b2 b3 a2 d2 a0 d0 l2 l0 c2 c0 with ⟨r, e8, e9⟩ | ⟨w, w', e8, e9, hw, u1, u2, u3, u4, u5⟩
            · exact ⟨_, _, _, _, _, _, _, _, _, e8, e9, hr_1⟩
            · exact ⟨_, _, _, _, _, _, _, _, _, e8, e9, ⟨it_cp (show (2 : Int32).toInt = ((2 : Nat) : Int) by decide) (show (0 : Int32).toInt = ((0 : Nat) : Int) by decide) (by decide) (by decide) l2 l0 hw u1 u2 u3 u4 u5 t2 t0, it_ne (show (0 : Int32).toInt = ((0 : Nat) : Int) by decide) (by decide) (by decide) (by decide) hw u3 u4 t1, it_ne (show (0 : Int32).toInt = ((0 : Nat) : Int) by decide) (by decide) (by decide) (by decide) hw u3 u4 t2, it_ne (show (0 : Int32).toInt = ((0 : Nat) : Int) by decide) (by decide) (by decide) (by decide) hw u3 u4 t3, it_ne (show (0 : Int32).toInt = ((0 : Nat) : Int) by decide) (by decide) (by decide) (by decide) hw u3 u4 t4, it_ne (show (0 : Int32).toInt = ((0 : Nat) : Int) by decide) (by decide) (by decide) (by decide) hw u3 u4 t5⟩⟩
          · rw [if_neg (show ¬ (1 : Int32) = 0 by decide), if_pos (rfl : (1 : Int32) = 1)]
            rcases sh_fin (x2 := x2) (x4 := x4) (x5 := x5) (fun z => (z, v_shelves0_items, v_shelves1_items, v_shelves2_items, v_shelves3_items, v_shelves4_items, v_shelves5_items)) (fun l => (x5, v_shelves0_items, l, v_shelves2_items, v_shelves3_items, v_shelves4_items, v_shelves5_items)) hx hy b0 b1 b2 b3 a2 d2 a1 d1 l2 l1 c2 c1 with ⟨r, e8, e9⟩ | ⟨w, w', e8, e9, hw, u1, u2, u3, u4, u5⟩
            · exact ⟨_, _, _, _, _, _, _, _, _, e8, e9, hr_1⟩
            · exact ⟨_, _, _, _, _, _, _, _, _, e8, e9, ⟨it_ne (show (1 : Int32).toInt = ((1 : Nat) : Int) by decide) (by decide) (by decide) (by decide) hw u3 u4 t0, it_cp (show (2 : Int32).toInt = ((2 : Nat) : Int) by decide) (show (1 : Int32).toInt = ((1 : Nat) : Int) by decide) (by decide) (by decide) l2 l1 hw u1 u2 u3 u4 u5 t2 t1, it_ne (show (1 : Int32).toInt = ((1 : Nat) : Int) by decide) (by decide) (by decide) (by decide) hw u3 u4 t2, it_ne (show (1 : Int32).toInt = ((1 : Nat) : Int) by decide) (by decide) (by decide) (by decide) hw u3 u4 t3, it_ne (show (1 : Int32).toInt = ((1 : Nat) : Int) by decide) (by decide) (by decide) (by decide) hw u3 u4 t4, it_ne (show (1 : Int32).toInt = ((1 : Nat) : Int) by decide) (by decide) (by decide) (by decide) hw u3 u4 t5⟩⟩
          · rw [if_neg (show ¬ (2 : Int32) = 0 by decide), if_neg (show ¬ (2 : Int32) = 1 by decide), if_pos (rfl : (2 : Int32) = 2)]
            rcases sh_fin (x2 := x2) (x4 := x4) (x5 := x5) (fun z => (z, v_shelves0_items, v_shelves1_items, v_shelves2_items, v_shelves3_items, v_shelves4_items, v_shelves5_items)) (fun l => (x5, v_shelves0_items, v_shelves1_items, l, v_shelves3_items, v_shelves4_items, v_shelves5_items)) hx hy b0 b1 b2 b3 a2 d2 a2 d2 l2 l2 c2 c2 with ⟨r, e8, e9⟩ | ⟨w, w', e8, e9, hw, u1, u2, u3, u4, u5⟩
            · exact ⟨_, _, _, _, _, _, _, _, _, e8, e9, hr_1⟩
            · exact ⟨_, _, _, _, _, _, _, _, _, e8, e9, ⟨it_ne (show (2 : Int32).toInt = ((2 : Nat) : Int) by decide) (by decide) (by decide) (by decide) hw u3 u4 t0, it_ne (show (2 : Int32).toInt = ((2 : Nat) : Int) by decide) (by decide) (by decide) (by decide) hw u3 u4 t1, it_cp (show (2 : Int32).toInt = ((2 : Nat) : Int) by decide) (show (2 : Int32).toInt = ((2 : Nat) : Int) by decide) (by decide) (by decide) l2 l2 hw u1 u2 u3 u4 u5 t2 t2, it_ne (show (2 : Int32).toInt = ((2 : Nat) : Int) by decide) (by decide) (by decide) (by decide) hw u3 u4 t3, it_ne (show (2 : Int32).toInt = ((2 : Nat) : Int) by decide) (by decide) (by decide) (by decide) hw u3 u4 t4, it_ne (show (2 : Int32).toInt = ((2 : Nat) : Int) by decide) (by decide) (by decide) (by decide) hw u3 u4 t5⟩⟩
          · rw [if_neg (show ¬ (3 : Int32) = 0 by decide), if_neg (show ¬ (3 : Int32) = 1 by decide), if_neg (show ¬ (3 : Int32) = 2 by decide), if_pos (rfl : (3 : Int32) = 3)]
            rcases sh_fin (x2 := x2) (x4 := x4) (x5 := x5) (fun z => (z, v_shelves0_items, v_shelves1_items, v_shelves2_items, v_shelves3_items, v_shelves4_items, v_shelves5_items)) (fun l => (x5, v_shelves0_items, v_shelves1_items, v_shelves2_items, l, v_shelves4_items, v_shelves5_items)) hx hy b0 b1 b2 b3 a2 d2 a3 d3 l2 l3 c2 c3 with ⟨r, e8, e9⟩ | ⟨w, w', e8, e9, hw, u1, u2, u3, u4, u5⟩
            · exact ⟨_, _, _, _, _, _, _, _, _, e8, e9, hr_1⟩
            · exact ⟨_, _, _, _, _, _, _, _, _, e8, e9, ⟨it_ne (show (3 : Int32).toInt = ((3 : Nat) : Int) by decide) (by decide) (by decide) (by decide) hw u3 u4 t0, it_ne (show (3 : Int32).toInt = ((3 : Nat) : Int) by decide) (by decide) (by decide) (by decide) hw u3 u4 t1, it_ne (show (3 : Int32).toInt = ((3 : Nat) : Int) by decide) (by decide) (by decide) (by decide) hw u3 u4 t2, it_cp (show (2 : Int32).toInt = ((2 : Nat) : Int) by decide) (show (3 : Int32).toInt = ((3 : Nat) : Int) by decide) (by decide) (by decide) l2 l3 hw u1 u2 u3 u4 u5 t2 t3, it_ne (show (3 : Int32).toInt = ((3 : Nat) : Int) by decide) (by decide) (by decide) (by decide) hw u3 u4 t4, it_ne (show (3 : Int32).toInt = ((3 : Nat) : Int) by decide) (by decide) (by decide) (by decide) hw u3 u4 t5⟩⟩
          · rw [if_neg (show ¬ (4 : Int32) = 0 by decide), if_neg (show ¬ (4 : Int32) = 1 by decide), if_neg (show ¬ (4 : Int32) = 2 by decide), if_neg (show ¬ (4 : Int32) = 3 by decide), if_pos (rfl : (4 : Int32) = 4)]
            rcases sh_fin (x2 := x2) (x4 := x4) (x5 := x5) (fun z => (z, v_shelves0_items, v_shelves1_items, v_shelves2_items, v_shelves3_items, v_shelves4_items, v_shelves5_items)) (fun l => (x5, v_shelves0_items, v_shelves1_items, v_shelves2_items, v_shelves3_items, l, v_shelves5_items)) hx hy b0 b1 b2 b3 a2 d2 a4 d4 l2 l4 c2 c4 with ⟨r, e8, e9⟩ | ⟨w, w', e8, e9, hw, u1, u2, u3, u4, u5⟩
            · exact ⟨_, _, _, _, _, _, _, _, _, e8, e9, hr_1⟩
            · exact ⟨_, _, _, _, _, _, _, _, _, e8, e9, ⟨it_ne (show (4 : Int32).toInt = ((4 : Nat) : Int) by decide) (by decide) (by decide) (by decide) hw u3 u4 t0, it_ne (show (4 : Int32).toInt = ((4 : Nat) : Int) by decide) (by decide) (by decide) (by decide) hw u3 u4 t1, it_ne (show (4 : Int32).toInt = ((4 : Nat) : Int) by decide) (by decide) (by decide) (by decide) hw u3 u4 t2, it_ne (show (4 : Int32).toInt = ((4 : Nat) : Int) by decide) (by decide) (by decide) (by decide) hw u3 u4 t3, it_cp (show (2 : Int32).toInt = ((2 : Nat) : Int) by decide) (show (4 : Int32).toInt = ((4 : Nat) : Int) by decide) (by decide) (by decide) l2 l4 hw u1 u2 u3 u4 u5 t2 t4, it_ne (show (4 : Int32).toInt = ((4 : Nat) : Int) by decide) (by decide) (by decide) (by decide) hw u3 u4 t5⟩⟩
          · rw [if_neg (show ¬ (5 : Int32) = 0 by decide), if_neg (show ¬ (5 : Int32) = 1 by decide), if_neg (show ¬ (5 : Int32) = 2 by decide), if_neg (show ¬ (5 : Int32) = 3 by decide), if_neg (show ¬ (5 : Int32) = 4 by decide), if_pos (rfl : (5 : Int32) = 5)]
            rcases sh_fin (x2 := x2) (x4 := x4) (x5 := x5) (fun z => (z, v_shelves0_items, v_shelves1_items, v_shelves2_items, v_shelves3_items, v_shelves4_items, v_shelves5_items)) (fun l => (x5, v_shelves0_items, v_shelves1_items, v_shelves2_items, v_shelves3_items, v_shelves4_items, l)) hx hy b0 b1 b2 b3 a2 d2 a5 d5 l2 l5 c2 c5 with ⟨r, e8, e9⟩ | ⟨w, w', e8, e9, hw, u1, u2, u3, u4, u5⟩
            · exact ⟨_, _, _, _, _, _, _, _, _, e8, e9, hr_1⟩
            · exact ⟨_, _, _, _, _, _, _, _, _, e8, e9, ⟨it_ne (show (5 : Int32).toInt = ((5 : Nat) : Int) by decide) (by decide) (by decide) (by decide) hw u3 u4 t0, it_ne (show (5 : Int32).toInt = ((5 : Nat) : Int) by decide) (by decide) (by decide) (by decide) hw u3 u4 t1, it_ne (show (5 : Int32).toInt = ((5 : Nat) : Int) by decide) (by decide) (by decide) (by decide) hw u3 u4 t2, it_ne (show (5 : Int32).toInt = ((5 : Nat) : Int) by decide) (by decide) (by decide) (by decide) hw u3 u4 t3, it_ne (show (5 : Int32).toInt = ((5 : Nat) : Int) by decide) (by decide) (by decide) (by decide) hw u3 u4 t4, it_cp (show (2 : Int32).toInt = ((2 : Nat) : Int) by decide) (show (5 : Int32).toInt = ((5 : Nat) : Int) by decide) (by decide) (by decide) l2 l5 hw u1 u2 u3 u4 u5 t2 t5⟩⟩
        · rw [if_neg (show ¬ (3 : Int32) = 0 by decide), if_neg (show ¬ (3 : Int32) = 1 by decide), if_neg (show ¬ (3 : Int32) = 2 by decide), if_pos (rfl : (3 : Int32) = 3)]
          rcases k6 hy.1 hy.2 with rfl | rfl | rfl | rfl | rfl | rfl
          · rw [if_pos (rfl : (0 : Int32) = 0)]
            rcases sh_fin (x2 := x2) (x4 := x4) (x5 := x5) (fun z => (z, v_shelves0_items, v_shelves1_items, v_shelves2_items, v_shelves3_items, v_shelves4_items, v_shelves5_items)) (fun l => (x5, l, v_shelves1_items, v_shelves2_items, v_shelves3_items, v_shelves4_items, v_shelves5_items)) hx hy b0 b1 b2 b3 a3 d3 a0 d0 l3 l0 c3 c0 with ⟨r, e8, e9⟩ | ⟨w, w', e8, e9, hw, u1, u2, u3, u4, u5⟩
            · exact ⟨_, _, _, _, _, _, _, _, _, e8, e9, hr_1⟩
            · exact ⟨_, _, _, _, _, _, _, _, _, e8, e9, ⟨it_cp (show (3 : Int32).toInt = ((3 : Nat) : Int) by decide) (show (0 : Int32).toInt = ((0 : Nat) : Int) by decide) (by decide) (by decide) l3 l0 hw u1 u2 u3 u4 u5 t3 t0, it_ne (show (0 : Int32).toInt = ((0 : Nat) : Int) by decide) (by decide) (by decide) (by decide) hw u3 u4 t1, it_ne (show (0 : Int32).toInt = ((0 : Nat) : Int) by decide) (by decide) (by decide) (by decide) hw u3 u4 t2, it_ne (show (0 : Int32).toInt = ((0 : Nat) : Int) by decide) (by decide) (by decide) (by decide) hw u3 u4 t3, it_ne (show (0 : Int32).toInt = ((0 : Nat) : Int) by decide) (by decide) (by decide) (by decide) hw u3 u4 t4, it_ne (show (0 : Int32).toInt = ((0 : Nat) : Int) by decide) (by decide) (by decide) (by decide) hw u3 u4 t5⟩⟩
          · rw [if_neg (show ¬ (1 : Int32) = 0 by decide), if_pos (rfl : (1 : Int32) = 1)]
            rcases sh_fin (x2 := x2) (x4 := x4) (x5 := x5) (fun z => (z, v_shelves0_items, v_shelves1_items, v_shelves2_items, v_shelves3_items, v_shelves4_items, v_shelves5_items)) (fun l => (x5, v_shelves0_items, l, v_shelves2_items, v_shelves3_items, v_shelves4_items, v_shelves5_items)) hx hy b0 b1 b2 b3 a3 d3 a1 d1 l3 l1 c3 c1 with ⟨r, e8, e9⟩ | ⟨w, w', e8, e9, hw, u1, u2, u3, u4, u5⟩
            · exact ⟨_, _, _, _, _, _, _, _, _, e8, e9, hr_1⟩
            · exact ⟨_, _, _, _, _, _, _, _, _, e8, e9, ⟨it_ne (show (1 : Int32).toInt = ((1 : Nat) : Int) by decide) (by decide) (by decide) (by decide) hw u3 u4 t0, it_cp (show (3 : Int32).toInt = ((3 : Nat) : Int) by decide) (show (1 : Int32).toInt = ((1 : Nat) : Int) by decide) (by decide) (by decide) l3 l1 hw u1 u2 u3 u4 u5 t3 t1, it_ne (show (1 : Int32).toInt = ((1 : Nat) : Int) by decide) (by decide) (by decide) (by decide) hw u3 u4 t2, it_ne (show (1 : Int32).toInt = ((1 : Nat) : Int) by decide) (by decide) (by decide) (by decide) hw u3 u4 t3, it_ne (show (1 : Int32).toInt = ((1 : Nat) : Int) by decide) (by decide) (by decide) (by decide) hw u3 u4 t4, it_ne (show (1 : Int32).toInt = ((1 : Nat) : Int) by decide) (by decide) (by decide) (by decide) hw u3 u4 t5⟩⟩
          · rw [if_neg (show ¬ (2 : Int32) = 0 by decide), if_neg (show ¬ (2 : Int32) = 1 by decide), if_pos (rfl : (2 : Int32) = 2)]
            rcases sh_fin (x2 := x2) (x4 := x4) (x5 := x5) (fun z => (z, v_shelves0_items, v_shelves1_items, v_shelves2_items, v_shelves3_items, v_shelves4_items, v_shelves5_items)) (fun l => (x5, v_shelves0_items, v_shelves1_items, l, v_shelves3_items, v_shelves4_items, v_shelves5_items)) hx hy b0 b1 b2 b3 a3 d3 a2 d2 l3 l2 c3 c2 with ⟨r, e8, e9⟩ | ⟨w, w', e8, e9, hw, u1, u2, u3, u4, u5⟩
            · exact ⟨_, _, _, _, _, _, _, _, _, e8, e9, hr_1⟩
            · exact ⟨_, _, _, _, _, _, _, _, _, e8, e9, ⟨it_ne (show (2 : Int32).toInt = ((2 : Nat) : Int) by decide) (by decide) (by decide) (by decide) hw u3 u4 t0, it_ne (show (2 : Int32).toInt = ((2 : Nat) : Int) by decide) (by decide) (by decide) (by decide) hw u3 u4 t1, it_cp (show (3 : Int32).toInt = ((3 : Nat) : Int) by decide) (show (2 : Int32).toInt = ((2 : Nat) : Int) by decide) (by decide) (by decide) l3 l2 hw u1 u2 u3 u4 u5 t3 t2, it_ne (show (2 : Int32).toInt = ((2 : Nat) : Int) by decide) (by decide) (by decide) (by decide) hw u3 u4 t3, it_ne (show (2 : Int32).toInt = ((2 : Nat) : Int) by decide) (by decide) (by decide) (by decide) hw u3 u4 t4, it_ne (show (2 : Int32).toInt = ((2 : Nat) : Int) by decide) (by decide) (by decide) (by decide) hw u3 u4 t5⟩⟩
          · rw [if_neg (show ¬ (3 : Int32) = 0 by decide), if_neg (show ¬ (3 : Int32) = 1 by decide), if_neg (show ¬ (3 : Int32) = 2 by decide), if_pos (rfl : (3 : Int32) = 3)]
            rcases sh_fin (x2 := x2) (x4 := x4) (x5 := x5) (fun z => (z, v_shelves0_items, v_shelves1_items, v_shelves2_items, v_shelves3_items, v_shelves4_items, v_shelves5_items)) (fun l => (x5, v_shelves0_items, v_shelves1_items, v_shelves2_items, l, v_shelves4_items, v_shelves5_items)) hx hy b0 b1 b2 b3 a3 d3 a3 d3 l3 l3 c3 c3 with ⟨r, e8, e9⟩ | ⟨w, w', e8, e9, hw, u1, u2, u3, u4, u5⟩
            · exact ⟨_, _, _, _, _, _, _, _, _, e8, e9, hr_1⟩
            · exact ⟨_, _, _, _, _, _, _, _, _, e8, e9, ⟨it_ne (show (3 : Int32).toInt = ((3 : Nat) : Int) by decide) (by decide) (by decide) (by decide) hw u3 u4 t0, it_ne (show (3 : Int32).toInt = ((3 : Nat) : Int) by decide) (by decide) (by decide) (by decide) hw u3 u4 t1, it_ne (show (3 : Int32).toInt = ((3 : Nat) : Int) by decide) (by decide) (by decide) (by decide) hw u3 u4 t2, it_cp (show (3 : Int32).toInt = ((3 : Nat) : Int) by decide) (show (3 : Int32).toInt = ((3 : Nat) : Int) by decide) (by decide) (by decide) l3 l3 hw u1 u2 u3 u4 u5 t3 t3, it_ne (show (3 : Int32).toInt = ((3 : Nat) : Int) by decide) (by decide) (by decide) (by decide) hw u3 u4 t4, it_ne (show (3 : Int32).toInt = ((3 : Nat) : Int) by decide) (by decide) (by decide) (by decide) hw u3 u4 t5⟩⟩
          · rw [if_neg (show ¬ (4 : Int32) = 0 by decide), if_neg (show ¬ (4 : Int32) = 1 by decide), if_neg (show ¬ (4 : Int32) = 2 by decide), if_neg (show ¬ (4 : Int32) = 3 by decide), if_pos (rfl : (4 : Int32) = 4)]
            rcases sh_fin (x2 := x2) (x4 := x4) (x5 := x5) (fun z => (z, v_shelves0_items, v_shelves1_items, v_shelves2_items, v_shelves3_items, v_shelves4_items, v_shelves5_items)) (fun l => (x5, v_shelves0_items, v_shelves1_items, v_shelves2_items, v_shelves3_items, l, v_shelves5_items)) hx hy b0 b1 b2 b3 a3 d3 a4 d4 l3 l4 c3 c4 with ⟨r, e8, e9⟩ | ⟨w, w', e8, e9, hw, u1, u2, u3, u4, u5⟩
            · exact ⟨_, _, _, _, _, _, _, _, _, e8, e9, hr_1⟩
            · exact ⟨_, _, _, _, _, _, _, _, _, e8, e9, ⟨it_ne (show (4 : Int32).toInt = ((4 : Nat) : Int) by decide) (by decide) (by decide) (by decide) hw u3 u4 t0, it_ne (show (4 : Int32).toInt = ((4 : Nat) : Int) by decide) (by decide) (by decide) (by decide) hw u3 u4 t1, it_ne (show (4 : Int32).toInt = ((4 : Nat) : Int) by decide) (by decide) (by decide) (by decide) hw u3 u4 t2, it_ne (show (4 : Int32).toInt = ((4 : Nat) : Int) by decide) (by decide) (by decide) (by decide) hw u3 u4 t3, it_cp (show (3 : Int32).toInt = ((3 : Nat) : Int) by decide) (show (4 : Int32).toInt = ((4 : Nat) : Int) by decide) (by decide) (by decide) l3 l4 hw u1 u2 u3 u4 u5 t3 t4, it_ne (show (4 : Int32).toInt = ((4 : Nat) : Int) by decide) (by decide) (by decide) (by decide) hw u3 u4 t5⟩⟩
          · rw [if_neg (show ¬ (5 : Int32) = 0 by decide), if_neg (show ¬ (5 : Int32) = 1 by decide), if_neg (show ¬ (5 : Int32) = 2 by decide), if_neg (show ¬ (5 : Int32) = 3 by decide), if_neg (show ¬ (5 : Int32) = 4 by decide), if_pos (rfl : (5 : Int32) = 5)]
            rcases sh_fin (x2 := x2) (x4 := x4) (x5 := x5) (fun z => (z, v_shelves0_items, v_shelves1_items, v_shelves2_items, v_shelves3_items, v_shelves4_items, v_shelves5_items)) (fun l => (x5, v_shelves0_items, v_shelves1_items, v_shelves2_items, v_shelves3_items, v_shelves4_items, l)) hx hy b0 b1 b2 b3 a3 d3 a5 d5 l3 l5 c3 c5 with ⟨r, e8, e9⟩ | ⟨w, w', e8, e9, hw, u1, u2, u3, u4, u5⟩
            · exact ⟨_, _, _, _, _, _, _, _, _, e8, e9, hr_1⟩
            · exact ⟨_, _, _, _, _, _, _, _, _, e8, e9, ⟨it_ne (show (5 : Int32).toInt = ((5 : Nat) : Int) by decide) (by decide) (by decide) (by decide) hw u3 u4 t0, it_ne (show (5 : Int32).toInt = ((5 : Nat) : Int) by decide) (by decide) (by decide) (by decide) hw u3 u4 t1, it_ne (show (5 : Int32).toInt = ((5 : Nat) : Int) by decide) (by decide) (by decide) (by decide) hw u3 u4 t2, it_ne (show (5 : Int32).toInt = ((5 : Nat) : Int) by decide) (by decide) (by decide) (by decide) hw u3 u4 t3, it_ne (show (5 : Int32).toInt = ((5 : Nat) : Int) by decide) (by decide) (by decide) (by decide) hw u3 u4 t4, it_cp (show (3 : Int32).toInt = ((3 : Nat) : Int) by decide) (show (5 : Int32).toInt = ((5 : Nat) : Int) by decide) (by decide) (by decide) l3 l5 hw u1 u2 u3 u4 u5 t3 t5⟩⟩
        · rw [if_neg (show ¬ (4 : Int32) = 0 by decide), if_neg (show ¬ (4 : Int32) = 1 by decide), if_neg (show ¬ (4 : Int32) = 2 by decide), if_neg (show ¬ (4 : Int32) = 3 by decide), if_pos (rfl : (4 : Int32) = 4)]
          rcases k6 hy.1 hy.2 with rfl | rfl | rfl | rfl | rfl | rfl
          · rw [if_pos (rfl : (0 : Int32) = 0)]
            rcases sh_fin (x2 := x2) (x4 := x4) (x5 := x5) (fun z => (z, v_shelves0_items, v_shelves1_items, v_shelves2_items, v_shelves3_items, v_shelves4_items, v_shelves5_items)) (fun l => (x5, l, v_shelves1_items, v_shelves2_items, v_shelves3_items, v_shelves4_items, v_shelves5_items)) hx hy b0 b1 b2 b3 a4 d4 a0 d0 l4 l0 c4 c0 with ⟨r, e8, e9⟩ | ⟨w, w', e8, e9, hw, u1, u2, u3, u4, u5⟩
            · exact ⟨_, _, _, _, _, _, _, _, _, e8, e9, hr_1⟩
            · exact ⟨_, _, _, _, _, _, _, _, _, e8, e9, ⟨it_cp (show (4 : Int32).toInt = ((4 : Nat) : Int) by decide) (show (0 : Int32).toInt = ((0 : Nat) : Int) by decide) (by decide) (by decide) l4 l0 hw u1 u2 u3 u4 u5 t4 t0, it_ne (show (0 : Int32).toInt = ((0 : Nat) : Int) by decide) (by decide) (by decide) (by decide) hw u3 u4 t1, it_ne (show (0 : Int32).toInt = ((0 : Nat) : Int) by decide) (by decide) (by decide) (by decide) hw u3 u4 t2, it_ne (show (0 : Int32).toInt = ((0 : Nat) : Int) by decide) (by decide) (by decide) (by decide) hw u3 u4 t3, it_ne (show (0 : Int32).toInt = ((0 : Nat) : Int) by decide) (by decide) (by decide) (by decide) hw u3 u4 t4, it_ne (show (0 : Int32).toInt = ((0 : Nat) : Int) by decide) (by decide) (by decide) (by decide) hw u3 u4 t5⟩⟩
          · rw [if_neg (show ¬ (1 : Int32) = 0 by decide), if_pos (rfl : (1 : Int32) = 1)]
            rcases sh_fin (x2 := x2) (x4 := x4) (x5 := x5) (fun z => (z, v_shelves0_items, v_shelves1_items, v_shelves2_items, v_shelves3_items, v_shelves4_items, v_shelves5_items)) (fun l => (x5, v_shelves0_items, l, v_shelves2_items, v_shelves3_items, v_shelves4_items, v_shelves5_items)) hx hy b0 b1 b2 b3 a4 d4 a1 d1 l4 l1 c4 c1 with ⟨r, e8, e9⟩ | ⟨w, w', e8, e9, hw, u1, u2, u3, u4, u5⟩
            · exact ⟨_, _, _, _, _, _, _, _, _, e8, e9, hr_1⟩
            · exact ⟨_, _, _, _, _, _, _, _, _, e8, e9, ⟨it_ne (show (1 : Int32).toInt = ((1 : Nat) : Int) by decide) (by decide) (by decide) (by decide) hw u3 u4 t0, it_cp (show (4 : Int32).toInt = ((4 : Nat) : Int) by decide) (show (1 : Int32).toInt = ((1 : Nat) : Int) by decide) (by decide) (by decide) l4 l1 hw u1 u2 u3 u4 u5 t4 t1, it_ne (show (1 : Int32).toInt = ((1 : Nat) : Int) by decide) (by decide) (by decide) (by decide) hw u3 u4 t2, it_ne (show (1 : Int32).toInt = ((1 : Nat) : Int) by decide) (by decide) (by decide) (by decide) hw u3 u4 t3, it_ne (show (1 : Int32).toInt = ((1 : Nat) : Int) by decide) (by decide) (by decide) (by decide) hw u3 u4 t4, it_ne (show (1 : Int32).toInt = ((1 : Nat) : Int) by decide) (by decide) (by decide) (by decide) hw u3 u4 t5⟩⟩
          · rw [if_neg (show ¬ (2 : Int32) = 0 by decide), if_neg (show ¬ (2 : Int32) = 1 by decide), if_pos (rfl : (2 : Int32) = 2)]
            rcases sh_fin (x2 := x2) (x4 := x4) (x5 := x5) (fun z => (z, v_shelves0_items, v_shelves1_items, v_shelves2_items, v_shelves3_items, v_shelves4_items, v_shelves5_items)) (fun l => (x5, v_shelves0_items, v_shelves1_items, l, v_shelves3_items, v_shelves4_items, v_shelves5_items)) hx hy b0 b1 b2 b3 a4 d4 a2 d2 l4 l2 c4 c2 with ⟨r, e8, e9⟩ | ⟨w, w', e8, e9, hw, u1, u2, u3, u4, u5⟩
            · exact ⟨_, _, _, _, _, _, _, _, _, e8, e9, hr_1⟩
            · exact ⟨_, _, _, _, _, _, _, _, _, e8, e9, ⟨it_ne (show (2 : Int32).toInt = ((2 : Nat) : Int) by decide) (by decide) (by decide) (by decide) hw u3 u4 t0, it_ne (show (2 : Int32).toInt = ((2 : Nat) : Int) by decide) (by decide) (by decide) (by decide) hw u3 u4 t1, it_cp (show (4 : Int32).toInt = ((4 : Nat) : Int) by decide) (show (2 : Int32).toInt = ((2 : Nat) : Int) by decide) (by decide) (by decide) l4 l2 hw u1 u2 u3 u4 u5 t4 t2, it_ne (show (2 : Int32).toInt = ((2 : Nat) : Int) by decide) (by decide) (by decide) (by decide) hw u3 u4 t3, it_ne (show (2 : Int32).toInt = ((2 : Nat) : Int) by decide) (by decide) (by decide) (by decide) hw u3 u4 t4, it_ne (show (2 : Int32).toInt = ((2 : Nat) : Int) by decide) (by decide) (by decide) (by decide) hw u3 u4 t5⟩⟩
          · rw [if_neg (show ¬ (3 : Int32) = 0 by decide), if_neg (show ¬ (3 : Int32) = 1 by decide), if_neg (show ¬ (3 : Int32) = 2 by decide), if_pos (rfl : (3 : Int32) = 3)]
            rcases sh_fin (x2 := x2) (x4 := x4) (x5 := x5) (fun z => (z, v_shelves0_items, v_shelves1_items, v_shelves2_items, v_shelves3_items, v_shelves4_items, v_shelves5_items)) (fun l => (x5, v_shelves0_items, v_shelves1_items, v_shelves2_items, l, v_shelves4_items, v_shelves5_items)) hx hy b0 b1 b2 b3 a4 d4 a3 d3 l4 l3 c4 c3 with ⟨r, e8, e9⟩ | ⟨w, w', e8, e9, hw, u1, u2, u3, u4, u5⟩
            · exact ⟨_, _, _, _, _, _, _, _, _, e8, e9, hr_1⟩
            · exact ⟨_, _, _, _, _, _, _, _, _, e8, e9, ⟨it_ne (show (3 : Int32).toInt = ((3 : Nat) : Int) by decide) (by decide) (by decide) (by decide) hw u3 u4 t0, it_ne (show (3 : Int32).toInt = ((3 : Nat) : Int) by decide) (by decide) (by decide) (by decide) hw u3 u4 t1, it_ne (show (3 : Int32).toInt = ((3 : Nat) : Int) by decide) (by decide) (by decide) (by decide) hw u3 u4 t2, it_cp (show (4 : Int32).toInt = ((4 : Nat) : Int) by decide) (show (3 : Int32).toInt = ((3 : Nat) : Int) by decide) (by decide) (by decide) l4 l3 hw u1 u2 u3 u4 u5 t4 t3, it_ne (show (3 : Int32).toInt = ((3 : Nat) : Int) by decide) (by decide) (by decide) (by decide) hw u3 u4 t4, it_ne (show (3 : Int32).toInt = ((3 : Nat) : Int) by decide) (by decide) (by decide) (by decide) hw u3 u4 t5⟩⟩
          · rw [if_neg (show ¬ (4 : Int32) = 0 by decide), if_neg (show ¬ (4 : Int32) = 1 by decide), if_neg (show ¬ (4 : Int32) = 2 by decide), if_neg (show ¬ (4 : Int32) = 3 by decide), if_pos (rfl : (4 : Int32) = 4)]
            rcases sh_fin (x2 := x2) (x4 := x4) (x5 := x5) (fun z => (z, v_shelves0_items, v_shelves1_items, v_shelves2_items, v_shelves3_items, v_shelves4_items, v_shelves5_items)) (fun l => (x5, v_shelves0_items, v_shelves1_items, v_shelves2_items, v_shelves3_items, l, v_shelves5_items)) hx hy b0 b1 b2 b3 a4 d4 a4 d4 l4 l4 c4 c4 with ⟨r, e8, e9⟩ | ⟨w, w', e8, e9, hw, u1, u2, u3, u4, u5⟩
            · exact ⟨_, _, _, _, _, _, _, _, _, e8, e9, hr_1⟩
            · exact ⟨_, _, _, _, _, _, _, _, _, e8, e9, ⟨it_ne (show (4 : Int32).toInt = ((4 : Nat) : Int) by decide) (by decide) (by decide) (by decide) hw u3 u4 t0, it_ne (show (4 : Int32).toInt = ((4 : Nat) : Int) by decide) (by decide) (by decide) (by decide) hw u3 u4 t1, it_ne (show (4 : Int32).toInt = ((4 : Nat) : Int) by decide) (by decide) (by decide) (by decide) hw u3 u4 t2, it_ne (show (4 : Int32).toInt = ((4 : Nat) : Int) by decide) (by decide) (by decide) (by decide) hw u3 u4 t3, it_cp (show (4 : Int32).toInt = ((4 : Nat) : Int) by decide) (show (4 : Int32).toInt = ((4 : Nat) : Int) by decide) (by decide) (by decide) l4 l4 hw u1 u2 u3 u4 u5 t4 t4, it_ne (show (4 : Int32).toInt = ((4 : Nat) : Int) by decide) (by decide) (by decide) (by decide) hw u3 u4 t5⟩⟩
          · rw [if_neg (show ¬ (5 : Int32) = 0 by decide), if_neg (show ¬ (5 : Int32) = 1 by decide), if_neg (show ¬ (5 : Int32) = 2 by decide), if_neg (show ¬ (5 : Int32) = 3 by decide), if_neg (show ¬ (5 : Int32) = 4 by decide), if_pos (rfl : (5 : Int32) = 5)]
            rcases sh_fin (x2 := x2) (x4 := x4) (x5 := x5) (fun z => (z, v_shelves0_items, v_shelves1_items, v_shelves2_items, v_shelves3_items, v_shelves4_items, v_shelves5_items)) (fun l => (x5, v_shelves0_items, v_shelves1_items, v_shelves2_items, v_shelves3_items, v_shelves4_items, l)) hx hy b0 b1 b2 b3 a4 d4 a5 d5 l4 l5 c4 c5 with ⟨r, e8, e9⟩ | ⟨w, w', e8, e9, hw, u1, u2, u3, u4, u5⟩
            · exact ⟨_, _, _, _, _, _, _, _, _, e8, e9, hr_1⟩
            · exact ⟨_, _, _, _, _, _, _, _, _, e8, e9, ⟨it_ne (show (5 : Int32).toInt = ((5 : Nat) : Int) by decide) (by decide) (by decide) (by decide) hw u3 u4 t0, it_ne (show (5 : Int32).toInt = ((5 : Nat) : Int) by decide) (by decide) (by decide) (by decide) hw u3 u4 t1, it_ne (show (5 : Int32).toInt = ((5 : Nat) : Int) by decide) (by decide) (by decide) (by decide) hw u3 u4 t2, it_ne (show (5 : Int32).toInt = ((5 : Nat) : Int) by decide) (by decide) (by decide) (by decide) hw u3 u4 t3, it_ne (show (5 : Int32).toInt = ((5 : Nat) : Int) by decide) (by decide) (by decide) (by decide) hw u3 u4 t4, it_cp (show (4 : Int32).toInt = ((4 : Nat) : Int) by decide) (show (5 : Int32).toInt = ((5 : Nat) : Int) by decide) (by decide) (by decide) l4 l5 hw u1 u2 u3 u4 u5 t4 t5⟩⟩
        · rw [if_neg (show ¬ (5 : Int32) = 0 by decide), if_neg (show ¬ (5 : Int32) = 1 by decide), if_neg (show ¬ (5 : Int32) = 2 by decide), if_neg (show ¬ (5 : Int32) = 3 by decide), if_neg (show ¬ (5 : Int32) = 4 by decide), if_pos (rfl : (5 : Int32) = 5)]
          rcases k6 hy.1 hy.2 with rfl | rfl | rfl | rfl | rfl | rfl
          · rw [if_pos (rfl : (0 : Int32) = 0)]
            rcases sh_fin (x2 := x2) (x4 := x4) (x5 := x5) (fun z => (z, v_shelves0_items, v_shelves1_items, v_shelves2_items, v_shelves3_items, v_shelves4_items, v_shelves5_items)) (fun l => (x5, l, v_shelves1_items, v_shelves2_items, v_shelves3_items, v_shelves4_items, v_shelves5_items)) hx hy b0 b1 b2 b3 a5 d5 a0 d0 l5 l0 c5 c0 with ⟨r, e8, e9⟩ | ⟨w, w', e8, e9, hw, u1, u2, u3, u4, u5⟩
            · exact ⟨_, _, _, _, _, _, _, _, _, e8, e9, hr_1⟩
            · exact ⟨_, _, _, _, _, _, _, _, _, e8, e9, ⟨it_cp (show (5 : Int32).toInt = ((5 : Nat) : Int) by decide) (show (0 : Int32).toInt = ((0 : Nat) : Int) by decide) (by decide) (by decide) l5 l0 hw u1 u2 u3 u4 u5 t5 t0, it_ne (show (0 : Int32).toInt = ((0 : Nat) : Int) by decide) (by decide) (by decide) (by decide) hw u3 u4 t1, it_ne (show (0 : Int32).toInt = ((0 : Nat) : Int) by decide) (by decide) (by decide) (by decide) hw u3 u4 t2, it_ne (show (0 : Int32).toInt = ((0 : Nat) : Int) by decide) (by decide) (by decide) (by decide) hw u3 u4 t3, it_ne (show (0 : Int32).toInt = ((0 : Nat) : Int) by decide) (by decide) (by decide) (by decide) hw u3 u4 t4, it_ne (show (0 : Int32).toInt = ((0 : Nat) : Int) by decide) (by decide) (by decide) (by decide) hw u3 u4 t5⟩⟩
          · rw [if_neg (show ¬ (1 : Int32) = 0 by decide), if_pos (rfl : (1 : Int32) = 1)]
            rcases sh_fin (x2 := x2) (x4 := x4) (x5 := x5) (fun z => (z, v_shelves0_items, v_shelves1_items, v_shelves2_items, v_shelves3_items, v_shelves4_items, v_shelves5_items)) (fun l => (x5, v_shelves0_items, l, v_shelves2_items, v_shelves3_items, v_shelves4_items, v_shelves5_items)) hx hy b0 b1 b2 b3 a5 d5 a1 d1 l5 l1 c5 c1 with ⟨r, e8, e9⟩ | ⟨w, w', e8, e9, hw, u1, u2, u3, u4, u5⟩
            · exact ⟨_, _, _, _, _, _, _, _, _, e8, e9, hr_1⟩
            · exact ⟨_, _, _, _, _, _, _, _, _, e8, e9, ⟨it_ne (show (1 : Int32).toInt = ((1 : Nat) : Int) by decide) (by decide) (by decide) (by decide) hw u3 u4 t0, it_cp (show (5 : Int32).toInt = ((5 : Nat) : Int) by decide) (show (1 : Int32).toInt = ((1 : Nat) : Int) by decide) (by decide) (by decide) l5 l1 hw u1 u2 u3 u4 u5 t5 t1, it_ne (show (1 : Int32).toInt = ((1 : Nat) : Int) by decide) (by decide) (by decide) (by decide) hw u3 u4 t2, it_ne (show (1 : Int32).toInt = ((1 : Nat) : Int) by decide) (by decide) (by decide) (by decide) hw u3 u4 t3, it_ne (show (1 : Int32).toInt = ((1 : Nat) : Int) by decide) (by decide) (by decide) (by decide) hw u3 u4 t4, it_ne (show (1 : Int32).toInt = ((1 : Nat) : Int) by decide) (by decide) (by decide) (by decide) hw u3 u4 t5⟩⟩
          · rw [if_neg (show ¬ (2 : Int32) = 0 by decide), if_neg (show ¬ (2 : Int32) = 1 by decide), if_pos (rfl : (2 : Int32) = 2)]
            rcases sh_fin (x2 := x2) (x4 := x4) (x5 := x5) (fun z => (z, v_shelves0_items, v_shelves1_items, v_shelves2_items, v_shelves3_items, v_shelves4_items, v_shelves5_items)) (fun l => (x5, v_shelves0_items, v_shelves1_items, l, v_shelves3_items, v_shelves4_items, v_shelves5_items)) hx hy b0 b1 b2 b3 a5 d5 a2 d2 l5 l2 c5 c2 with ⟨r, e8, e9⟩ | ⟨w, w', e8, e9, hw, u1, u2, u3, u4, u5⟩
            · exact ⟨_, _, _, _, _, _, _, _, _, e8, e9, hr_1⟩
            · exact ⟨_, _, _, _, _, _, _, _, _, e8, e9, ⟨it_ne (show (2 : Int32).toInt = ((2 : Nat) : Int) by decide) (by decide) (by decide) (by decide) hw u3 u4 t0, it_ne (show (2 : Int32).toInt = ((2 : Nat) : Int) by decide) (by decide) (by decide) (by decide) hw u3 u4 t1, it_cp (show (5 : Int32).toInt = ((5 : Nat) : Int) by decide) (show (2 : Int32).toInt = ((2 : Nat) : Int) by decide) (by decide) (by decide) l5 l2 hw u1 u2 u3 u4 u5 t5 t2, it_ne (show (2 : Int32).toInt = ((2 : Nat) : Int) by decide) (by decide) (by decide) (by decide) hw u3 u4 t3, it_ne (show (2 : Int32).toInt = ((2 : Nat) : Int) by decide) (by decide) (by decide) (by decide) hw u3 u4 t4, it_ne (show (2 : Int32).toInt = ((2 : Nat) : Int) by decide) (by decide) (by decide) (by decide) hw u3 u4 t5⟩⟩
          · rw [if_neg (show ¬ (3 : Int32) = 0 by decide), if_neg (show ¬ (3 : Int32) = 1 by decide), if_neg (show ¬ (3 : Int32) = 2 by decide), if_pos (rfl : (3 : Int32) = 3)]
            rcases sh_fin (x2 := x2) (x4 := x4) (x5 := x5) (fun z => (z, v_shelves0_items, v_shelves1_items, v_shelves2_items, v_shelves3_items, v_shelves4_items, v_shelves5_items)) (fun l => (x5, v_shelves0_items, v_shelves1_items, v_shelves2_items, l, v_shelves4_items, v_shelves5_items)) hx hy b0 b1 b2 b3 a5 d5 a3 d3 l5 l3 c5 c3 with ⟨r, e8, e9⟩ | ⟨w, w', e8, e9, hw, u1, u2, u3, u4, u5⟩
            · exact ⟨_, _, _, _, _, _, _, _, _, e8, e9, hr_1⟩
            · exact ⟨_, _, _, _, _, _, _, _, _, e8, e9, ⟨it_ne (show (3 : Int32).toInt = ((3 : Nat) : Int) by decide) (by decide) (by decide) (by decide) hw u3 u4 t0, it_ne (show (3 : Int32).toInt = ((3 : Nat) : Int) by decide) (by decide) (by decide) (by decide) hw u3 u4 t1, it_ne (show (3 : Int32).toInt = ((3 : Nat) : Int) by decide) (by decide) (by decide) (by decide) hw u3 u4 t2, it_cp (show (5 : Int32).toInt = ((5 : Nat) : Int) by decide) (show (3 : Int32).toInt = ((3 : Nat) : Int) by decide) (by decide) (by decide) l5 l3 hw u1 u2 u3 u4 u5 t5 t3, it_ne (show (3 : Int32).toInt = ((3 : Nat) : Int) by decide) (by decide) (by decide) (by decide) hw u3 u4 t4, it_ne (show (3 : Int32).toInt = ((3 : Nat) : Int) by decide) (by decide) (by decide) (by decide) hw u3 u4 t5⟩⟩
          · rw [if_neg (show ¬ (4 : Int32) = 0 by decide), if_neg (show ¬ (4 : Int32) = 1 by decide), if_neg (show ¬ (4 : Int32) = 2 by decide), if_neg (show ¬ (4 : Int32) = 3 by decide), if_pos (rfl : (4 : Int32) = 4)]
            rcases sh_fin (x2 := x2) (x4 := x4) (x5 := x5) (fun z => (z, v_shelves0_items, v_shelves1_items, v_shelves2_items, v_shelves3_items, v_shelves4_items, v_shelves5_items)) (fun l => (x5, v_shelves0_items, v_shelves1_items, v_shelves2_items, v_shelves3_items, l, v_shelves5_items)) hx hy b0 b1 b2 b3 a5 d5 a4 d4 l5 l4 c5 c4 with ⟨r, e8, e9⟩ | ⟨w, w', e8, e9, hw, u1, u2, u3, u4, u5⟩
            · exact ⟨_, _, _, _, _, _, _, _, _, e8, e9, hr_1⟩
            · exact ⟨_, _, _, _, _, _, _, _, _, e8, e9, ⟨it_ne (show (4 : Int32).toInt = ((4 : Nat) : Int) by decide) (by decide) (by decide) (by decide) hw u3 u4 t0, it_ne (show (4 : Int32).toInt = ((4 : Nat) : Int) by decide) (by decide) (by decide) (by decide) hw u3 u4 t1, it_ne (show (4 : Int32).toInt = ((4 : Nat) : Int) by decide) (by decide) (by decide) (by decide) hw u3 u4 t2, it_ne (show (4 : Int32).toInt = ((4 : Nat) : Int) by decide) (by decide) (by decide) (by decide) hw u3 u4 t3, it_cp (show (5 : Int32).toInt = ((5 : Nat) : Int) by decide) (show (4 : Int32).toInt = ((4 : Nat) : Int) by decide) (by decide) (by decide) l5 l4 hw u1 u2 u3 u4 u5 t5 t4, it_ne (show (4 : Int32).toInt = ((4 : Nat) : Int) by decide) (by decide) (by decide) (by decide) hw u3 u4 t5⟩⟩
          · rw [if_neg (show ¬ (5 : Int32) = 0 by decide), if_neg (show ¬ (5 : Int32) = 1 by decide), if_neg (show ¬ (5 : Int32) = 2 by decide), if_neg (show ¬ (5 : Int32) = 3 by decide), if_neg (show ¬ (5 : Int32) = 4 by decide), if_pos (rfl : (5 : Int32) = 5)]
            rcases sh_fin (x2 := x2) (x4 := x4) (x5 := x5) (fun z => (z, v_shelves0_items, v_shelves1_items, v_shelves2_items, v_shelves3_items, v_shelves4_items, v_shelves5_items)) (fun l => (x5, v_shelves0_items, v_shelves1_items, v_shelves2_items, v_shelves3_items, v_shelves4_items, l)) hx hy b0 b1 b2 b3 a5 d5 a5 d5 l5 l5 c5 c5 with ⟨r, e8, e9⟩ | ⟨w, w', e8, e9, hw, u1, u2, u3, u4, u5⟩
            · exact ⟨_, _, _, _, _, _, _, _, _, e8, e9, hr_1⟩
            · exact ⟨_, _, _, _, _, _, _, _, _, e8, e9, ⟨it_ne (show (5 : Int32).toInt = ((5 : Nat) : Int) by decide) (by decide) (by decide) (by decide) hw u3 u4 t0, it_ne (show (5 : Int32).toInt = ((5 : Nat) : Int) by decide) (by decide) (by decide) (by decide) hw u3 u4 t1, it_ne (show (5 : Int32).toInt = ((5 : Nat) : Int) by decide) (by decide) (by decide) (by decide) hw u3 u4 t2, it_ne (show (5 : Int32).toInt = ((5 : Nat) : Int) by decide) (by decide) (by decide) (by decide) hw u3 u4 t3, it_ne (show (5 : Int32).toInt = ((5 : Nat) : Int) by decide) (by decide) (by decide) (by decide) hw u3 u4 t4, it_cp (show (5 : Int32).toInt = ((5 : Nat) : Int) by decide) (show (5 : Int32).toInt = ((5 : Nat) : Int) by decide) (by decide) (by decide) l5 l5 hw u1 u2 u3 u4 u5 t5 t5⟩⟩
      · rw [uf_X9_shift, sh9_e x1, bs_1, decide_eq_true hx, if_neg tf, sh9_e x3, bs_1, decide_eq_false hy, if_pos (rfl : false = false)]
        unfold fX8_shift
        rw [sh8_e x1, bs_1, decide_eq_true hx, if_neg tf, sh8_e x3, bs_1, decide_eq_false hy, if_pos (rfl : false = false)]
        exact ⟨_, _, _, _, _, _, _, _, _, rfl, rfl, hr_1⟩
    · rw [uf_X9_shift, sh9_e x1, bs_1, decide_eq_false hx, if_pos (rfl : false = false)]
      unfold fX8_shift
      rw [sh8_e x1, bs_1, decide_eq_false hx, if_pos (rfl : false = false)]
      exact ⟨_, _, _, _, _, _, _, _, _, rfl, rfl, hr_1⟩
  obtain ⟨r, p0, p1, p2, p3, p4, p5, q, q', e8, e9, R⟩ := X
  have k8 := wp_get (st8_shift g8_0 g8_1 g8_2 g8_3 g8_4 g8_5) e8
  have k9 := wp_get (st9_shift g9_0) e9
  exact ⟨_, _, _, _, _, _, _, _, _, e8, e9, k8.1, k8.2.1, k8.2.2.1, k8.2.2.2.1, k8.2.2.2.2.1, k8.2.2.2.2.2, k9, hr_0, R⟩
end
section
/-! row, put, element: items -/
theorem rw_it {x1 x2 x3 : Int32} {v_shelves0_holds : Int32} {v_shelves0_sort : Int32} {v_shelves0_size : Int32} {v_shelves1_holds : Int32} {v_shelves1_sort : Int32} {v_shelves1_size : Int32} {v_shelves2_holds : Int32} {v_shelves2_sort : Int32} {v_shelves2_size : Int32} {v_shelves3_holds : Int32} {v_shelves3_sort : Int32} {v_shelves3_size : Int32} {v_shelves4_holds : Int32} {v_shelves4_sort : Int32} {v_shelves4_size : Int32} {v_shelves5_holds : Int32} {v_shelves5_sort : Int32} {v_shelves5_size : Int32} {m_shelf m_many : List Int32} {m_items : List Int64} {v_shelves0_items : List Int64} {v_shelves1_items : List Int64} {v_shelves2_items : List Int64} {v_shelves3_items : List Int64} {v_shelves4_items : List Int64} {v_shelves5_items : List Int64} {r8 r9 : Int32} {p_shelves0_holds : Int32} {p_shelves0_sort : Int32} {p_shelves0_size : Int32} {p_shelves0_items : List Int64} {p_shelves1_holds : Int32} {p_shelves1_sort : Int32} {p_shelves1_size : Int32} {p_shelves1_items : List Int64} {p_shelves2_holds : Int32} {p_shelves2_sort : Int32} {p_shelves2_size : Int32} {p_shelves2_items : List Int64} {p_shelves3_holds : Int32} {p_shelves3_sort : Int32} {p_shelves3_size : Int32} {p_shelves3_items : List Int64} {p_shelves4_holds : Int32} {p_shelves4_sort : Int32} {p_shelves4_size : Int32} {p_shelves4_items : List Int64} {p_shelves5_holds : Int32} {p_shelves5_sort : Int32} {p_shelves5_size : Int32} {p_shelves5_items : List Int64} {q_shelf q_many : List Int32} {q_items : List Int64} (hx0 : 0 ≤ x1.toInt) (hx1 : x1.toInt ≤ 5) (hy0 : 0 ≤ x2.toInt) (hy1 : x2.toInt ≤ 4) (hs : m_shelf.length = 6) (hm : m_many.length = 6) (hi : m_items.length = 360) (l0 : v_shelves0_items.length = 60) (l1 : v_shelves1_items.length = 60) (l2 : v_shelves2_items.length = 60) (l3 : v_shelves3_items.length = 60) (l4 : v_shelves4_items.length = 60) (l5 : v_shelves5_items.length = 60) (H : rl_it v_shelves0_items v_shelves1_items v_shelves2_items v_shelves3_items v_shelves4_items v_shelves5_items m_items) (e8 : fX8_row 700 x1 x2 x3 v_shelves0_holds v_shelves0_sort v_shelves0_size v_shelves0_items v_shelves1_holds v_shelves1_sort v_shelves1_size v_shelves1_items v_shelves2_holds v_shelves2_sort v_shelves2_size v_shelves2_items v_shelves3_holds v_shelves3_sort v_shelves3_size v_shelves3_items v_shelves4_holds v_shelves4_sort v_shelves4_size v_shelves4_items v_shelves5_holds v_shelves5_sort v_shelves5_size v_shelves5_items = some (r8, p_shelves0_holds, p_shelves0_sort, p_shelves0_size, p_shelves0_items, p_shelves1_holds, p_shelves1_sort, p_shelves1_size, p_shelves1_items, p_shelves2_holds, p_shelves2_sort, p_shelves2_size, p_shelves2_items, p_shelves3_holds, p_shelves3_sort, p_shelves3_size, p_shelves3_items, p_shelves4_holds, p_shelves4_sort, p_shelves4_size, p_shelves4_items, p_shelves5_holds, p_shelves5_sort, p_shelves5_size, p_shelves5_items)) (e9 : fX9_row 700 x1 x2 x3 m_shelf m_many m_items = some (r9, q_shelf, q_many, q_items)) (hz0 : 0 ≤ x3.toInt) (hz1 : x3.toInt ≤ 60) : rl_it p_shelves0_items p_shelves1_items p_shelves2_items p_shelves3_items p_shelves4_items p_shelves5_items q_items := by
  obtain ⟨t0, t1, t2, t3, t4, t5⟩ := H
  have n60 : (60 : Int32).toInt = 60 := by decide
  have n50 : (50 : Int32).toInt = 50 := by decide
  have n5 : (5 : Int32).toInt = 5 := by decide
  have n0 : (0 : Int32).toInt = 0 := by decide
  have m0 : (0 : Int64).toInt = 0 := by decide
  have m4 : (4 : Int64).toInt = 4 := by decide
  have my := i_64 x2
  unfold fX9_row at e9
  rw [sh9_e, decide_eq_true ⟨hx0, hx1⟩, bs_1, if_neg (show ¬ (true = false) by decide)] at e9
  obtain ⟨w, ew, qw⟩ := sf_X9_within (Nat.le_refl 700) (x0 := x2.toInt64) (x2 := 0) (x4 := 4)
  rw [my, m0, m4] at qw
  rcases qw with ⟨rfl, q0, q1⟩ | ⟨rfl, q0⟩
  case inr => exact absurd q0 (by omega)
  rw [ew, bs_1, if_neg (show ¬ (true = false) by decide), if_pos (show x3 ≤ (60 : Int32) by rw [Int32.le_iff_toInt_le]; omega), if_pos (show 0 ≤ x3 by rw [Int32.le_iff_toInt_le]; omega), nm_eq, ck_t (i_inb (by omega) (by omega)), nm_eq, ck_t (i_inb (by omega) (by omega)), nm_eq, nm_eq] at e9
  have e1 : ((60 : Int32) * x1).toInt = 60 * x1.toInt := i_mulLE n60 rfl (by omega) (by omega)
  obtain ⟨⟨y1, y2, y3, it⟩, eit, qit⟩ := sg_row57 (sf := mm_is m_shelf x1 ((50 : Int32) + x2)) (mn := mm_is m_many x1 x3) hx0 hx1 700 ((60 : Int32) * x1) m_items hi (by omega) (by omega) (by omega)
  obtain ⟨-, -, -, -, hm'⟩ := qit
  rw [e1] at hm'
  rw [eit] at e9
  injection e9 with e9
  injection e9 with z0 e9
  injection e9 with z1 e9
  injection e9 with z2 e9
  subst e9
  unfold fX8_row fX6_holdRow at e8
  rw [sh8_e, decide_eq_true ⟨hx0, hx1⟩, bs_1, if_neg (show ¬ (true = false) by decide), if_neg (show ¬ x2 < 0 by rw [Int32.lt_iff_toInt_lt]; omega), if_neg (show ¬ (5 : Int32) ≤ x2 by rw [Int32.le_iff_toInt_le]; omega), if_pos (show x3 ≤ (60 : Int32) by rw [Int32.le_iff_toInt_le]; omega), if_pos (show 0 ≤ x3 by rw [Int32.le_iff_toInt_le]; omega)] at e8
  rcases k6 hx0 hx1 with rfl | rfl | rfl | rfl | rfl | rfl
  · rw [if_pos rfl] at e8
    obtain ⟨w, ew, qw⟩ := fl_z l0
    rw [ew, bs_1, bs_4] at e8
    injection e8 with e8
    injection e8 with s0 e8
    injection e8 with s1 e8
    injection e8 with s2 e8
    injection e8 with s3 e8
    injection e8 with s4 e8
    injection e8 with s5 e8
    injection e8 with s6 e8
    injection e8 with s7 e8
    injection e8 with s8 e8
    injection e8 with s9 e8
    injection e8 with s10 e8
    injection e8 with s11 e8
    injection e8 with s12 e8
    injection e8 with s13 e8
    injection e8 with s14 e8
    injection e8 with s15 e8
    injection e8 with s16 e8
    injection e8 with s17 e8
    injection e8 with s18 e8
    injection e8 with s19 e8
    injection e8 with s20 e8
    injection e8 with s21 e8
    injection e8 with s22 e8
    injection e8 with s23 e8
    subst s1 s2 s3 s4 s5 s6 s7 s8 s9 s10 s11 s12 s13 s14 s15 s16 s17 s18 s19 s20 s21 s22 s23 e8
    exact ⟨it_fz (show (0 : Int32).toInt = ((0 : Nat) : Int) by decide) (by decide) qw.2 hm', it_fn (show (0 : Int32).toInt = ((0 : Nat) : Int) by decide) (by decide) (by decide) (by decide) hm' t1, it_fn (show (0 : Int32).toInt = ((0 : Nat) : Int) by decide) (by decide) (by decide) (by decide) hm' t2, it_fn (show (0 : Int32).toInt = ((0 : Nat) : Int) by decide) (by decide) (by decide) (by decide) hm' t3, it_fn (show (0 : Int32).toInt = ((0 : Nat) : Int) by decide) (by decide) (by decide) (by decide) hm' t4, it_fn (show (0 : Int32).toInt = ((0 : Nat) : Int) by decide) (by decide) (by decide) (by decide) hm' t5⟩
  · rw [if_neg (show ¬ (1 : Int32) = 0 by decide), if_pos rfl] at e8
    obtain ⟨w, ew, qw⟩ := fl_z l1
    rw [ew, bs_1, bs_4] at e8
    injection e8 with e8
    injection e8 with s0 e8
    injection e8 with s1 e8
    injection e8 with s2 e8
    injection e8 with s3 e8
    injection e8 with s4 e8
    injection e8 with s5 e8
    injection e8 with s6 e8
    injection e8 with s7 e8
    injection e8 with s8 e8
    injection e8 with s9 e8
    injection e8 with s10 e8
    injection e8 with s11 e8
    injection e8 with s12 e8
    injection e8 with s13 e8
    injection e8 with s14 e8
    injection e8 with s15 e8
    injection e8 with s16 e8
    injection e8 with s17 e8
    injection e8 with s18 e8
    injection e8 with s19 e8
    injection e8 with s20 e8
    injection e8 with s21 e8
    injection e8 with s22 e8
    injection e8 with s23 e8
    subst s1 s2 s3 s4 s5 s6 s7 s8 s9 s10 s11 s12 s13 s14 s15 s16 s17 s18 s19 s20 s21 s22 s23 e8
    exact ⟨it_fn (show (1 : Int32).toInt = ((1 : Nat) : Int) by decide) (by decide) (by decide) (by decide) hm' t0, it_fz (show (1 : Int32).toInt = ((1 : Nat) : Int) by decide) (by decide) qw.2 hm', it_fn (show (1 : Int32).toInt = ((1 : Nat) : Int) by decide) (by decide) (by decide) (by decide) hm' t2, it_fn (show (1 : Int32).toInt = ((1 : Nat) : Int) by decide) (by decide) (by decide) (by decide) hm' t3, it_fn (show (1 : Int32).toInt = ((1 : Nat) : Int) by decide) (by decide) (by decide) (by decide) hm' t4, it_fn (show (1 : Int32).toInt = ((1 : Nat) : Int) by decide) (by decide) (by decide) (by decide) hm' t5⟩
  · rw [if_neg (show ¬ (2 : Int32) = 0 by decide), if_neg (show ¬ (2 : Int32) = 1 by decide), if_pos rfl] at e8
    obtain ⟨w, ew, qw⟩ := fl_z l2
    rw [ew, bs_1, bs_4] at e8
    injection e8 with e8
    injection e8 with s0 e8
    injection e8 with s1 e8
    injection e8 with s2 e8
    injection e8 with s3 e8
    injection e8 with s4 e8
    injection e8 with s5 e8
    injection e8 with s6 e8
    injection e8 with s7 e8
    injection e8 with s8 e8
    injection e8 with s9 e8
    injection e8 with s10 e8
    injection e8 with s11 e8
    injection e8 with s12 e8
    injection e8 with s13 e8
    injection e8 with s14 e8
    injection e8 with s15 e8
    injection e8 with s16 e8
    injection e8 with s17 e8
    injection e8 with s18 e8
    injection e8 with s19 e8
    injection e8 with s20 e8
    injection e8 with s21 e8
    injection e8 with s22 e8
    injection e8 with s23 e8
    subst s1 s2 s3 s4 s5 s6 s7 s8 s9 s10 s11 s12 s13 s14 s15 s16 s17 s18 s19 s20 s21 s22 s23 e8
    exact ⟨it_fn (show (2 : Int32).toInt = ((2 : Nat) : Int) by decide) (by decide) (by decide) (by decide) hm' t0, it_fn (show (2 : Int32).toInt = ((2 : Nat) : Int) by decide) (by decide) (by decide) (by decide) hm' t1, it_fz (show (2 : Int32).toInt = ((2 : Nat) : Int) by decide) (by decide) qw.2 hm', it_fn (show (2 : Int32).toInt = ((2 : Nat) : Int) by decide) (by decide) (by decide) (by decide) hm' t3, it_fn (show (2 : Int32).toInt = ((2 : Nat) : Int) by decide) (by decide) (by decide) (by decide) hm' t4, it_fn (show (2 : Int32).toInt = ((2 : Nat) : Int) by decide) (by decide) (by decide) (by decide) hm' t5⟩
  · rw [if_neg (show ¬ (3 : Int32) = 0 by decide), if_neg (show ¬ (3 : Int32) = 1 by decide), if_neg (show ¬ (3 : Int32) = 2 by decide), if_pos rfl] at e8
    obtain ⟨w, ew, qw⟩ := fl_z l3
    rw [ew, bs_1, bs_4] at e8
    injection e8 with e8
    injection e8 with s0 e8
    injection e8 with s1 e8
    injection e8 with s2 e8
    injection e8 with s3 e8
    injection e8 with s4 e8
    injection e8 with s5 e8
    injection e8 with s6 e8
    injection e8 with s7 e8
    injection e8 with s8 e8
    injection e8 with s9 e8
    injection e8 with s10 e8
    injection e8 with s11 e8
    injection e8 with s12 e8
    injection e8 with s13 e8
    injection e8 with s14 e8
    injection e8 with s15 e8
    injection e8 with s16 e8
    injection e8 with s17 e8
    injection e8 with s18 e8
    injection e8 with s19 e8
    injection e8 with s20 e8
    injection e8 with s21 e8
    injection e8 with s22 e8
    injection e8 with s23 e8
    subst s1 s2 s3 s4 s5 s6 s7 s8 s9 s10 s11 s12 s13 s14 s15 s16 s17 s18 s19 s20 s21 s22 s23 e8
    exact ⟨it_fn (show (3 : Int32).toInt = ((3 : Nat) : Int) by decide) (by decide) (by decide) (by decide) hm' t0, it_fn (show (3 : Int32).toInt = ((3 : Nat) : Int) by decide) (by decide) (by decide) (by decide) hm' t1, it_fn (show (3 : Int32).toInt = ((3 : Nat) : Int) by decide) (by decide) (by decide) (by decide) hm' t2, it_fz (show (3 : Int32).toInt = ((3 : Nat) : Int) by decide) (by decide) qw.2 hm', it_fn (show (3 : Int32).toInt = ((3 : Nat) : Int) by decide) (by decide) (by decide) (by decide) hm' t4, it_fn (show (3 : Int32).toInt = ((3 : Nat) : Int) by decide) (by decide) (by decide) (by decide) hm' t5⟩
  · rw [if_neg (show ¬ (4 : Int32) = 0 by decide), if_neg (show ¬ (4 : Int32) = 1 by decide), if_neg (show ¬ (4 : Int32) = 2 by decide), if_neg (show ¬ (4 : Int32) = 3 by decide), if_pos rfl] at e8
    obtain ⟨w, ew, qw⟩ := fl_z l4
    rw [ew, bs_1, bs_4] at e8
    injection e8 with e8
    injection e8 with s0 e8
    injection e8 with s1 e8
    injection e8 with s2 e8
    injection e8 with s3 e8
    injection e8 with s4 e8
    injection e8 with s5 e8
    injection e8 with s6 e8
    injection e8 with s7 e8
    injection e8 with s8 e8
    injection e8 with s9 e8
    injection e8 with s10 e8
    injection e8 with s11 e8
    injection e8 with s12 e8
    injection e8 with s13 e8
    injection e8 with s14 e8
    injection e8 with s15 e8
    injection e8 with s16 e8
    injection e8 with s17 e8
    injection e8 with s18 e8
    injection e8 with s19 e8
    injection e8 with s20 e8
    injection e8 with s21 e8
    injection e8 with s22 e8
    injection e8 with s23 e8
    subst s1 s2 s3 s4 s5 s6 s7 s8 s9 s10 s11 s12 s13 s14 s15 s16 s17 s18 s19 s20 s21 s22 s23 e8
    exact ⟨it_fn (show (4 : Int32).toInt = ((4 : Nat) : Int) by decide) (by decide) (by decide) (by decide) hm' t0, it_fn (show (4 : Int32).toInt = ((4 : Nat) : Int) by decide) (by decide) (by decide) (by decide) hm' t1, it_fn (show (4 : Int32).toInt = ((4 : Nat) : Int) by decide) (by decide) (by decide) (by decide) hm' t2, it_fn (show (4 : Int32).toInt = ((4 : Nat) : Int) by decide) (by decide) (by decide) (by decide) hm' t3, it_fz (show (4 : Int32).toInt = ((4 : Nat) : Int) by decide) (by decide) qw.2 hm', it_fn (show (4 : Int32).toInt = ((4 : Nat) : Int) by decide) (by decide) (by decide) (by decide) hm' t5⟩
  · rw [if_neg (show ¬ (5 : Int32) = 0 by decide), if_neg (show ¬ (5 : Int32) = 1 by decide), if_neg (show ¬ (5 : Int32) = 2 by decide), if_neg (show ¬ (5 : Int32) = 3 by decide), if_neg (show ¬ (5 : Int32) = 4 by decide), if_pos rfl] at e8
    obtain ⟨w, ew, qw⟩ := fl_z l5
    rw [ew, bs_1, bs_4] at e8
    injection e8 with e8
    injection e8 with s0 e8
    injection e8 with s1 e8
    injection e8 with s2 e8
    injection e8 with s3 e8
    injection e8 with s4 e8
    injection e8 with s5 e8
    injection e8 with s6 e8
    injection e8 with s7 e8
    injection e8 with s8 e8
    injection e8 with s9 e8
    injection e8 with s10 e8
    injection e8 with s11 e8
    injection e8 with s12 e8
    injection e8 with s13 e8
    injection e8 with s14 e8
    injection e8 with s15 e8
    injection e8 with s16 e8
    injection e8 with s17 e8
    injection e8 with s18 e8
    injection e8 with s19 e8
    injection e8 with s20 e8
    injection e8 with s21 e8
    injection e8 with s22 e8
    injection e8 with s23 e8
    subst s1 s2 s3 s4 s5 s6 s7 s8 s9 s10 s11 s12 s13 s14 s15 s16 s17 s18 s19 s20 s21 s22 s23 e8
    exact ⟨it_fn (show (5 : Int32).toInt = ((5 : Nat) : Int) by decide) (by decide) (by decide) (by decide) hm' t0, it_fn (show (5 : Int32).toInt = ((5 : Nat) : Int) by decide) (by decide) (by decide) (by decide) hm' t1, it_fn (show (5 : Int32).toInt = ((5 : Nat) : Int) by decide) (by decide) (by decide) (by decide) hm' t2, it_fn (show (5 : Int32).toInt = ((5 : Nat) : Int) by decide) (by decide) (by decide) (by decide) hm' t3, it_fn (show (5 : Int32).toInt = ((5 : Nat) : Int) by decide) (by decide) (by decide) (by decide) hm' t4, it_fz (show (5 : Int32).toInt = ((5 : Nat) : Int) by decide) (by decide) qw.2 hm'⟩
theorem rw_no {x1 x2 x3 : Int32} {v_shelves0_holds : Int32} {v_shelves0_sort : Int32} {v_shelves0_size : Int32} {v_shelves0_items : List Int64} {v_shelves1_holds : Int32} {v_shelves1_sort : Int32} {v_shelves1_size : Int32} {v_shelves1_items : List Int64} {v_shelves2_holds : Int32} {v_shelves2_sort : Int32} {v_shelves2_size : Int32} {v_shelves2_items : List Int64} {v_shelves3_holds : Int32} {v_shelves3_sort : Int32} {v_shelves3_size : Int32} {v_shelves3_items : List Int64} {v_shelves4_holds : Int32} {v_shelves4_sort : Int32} {v_shelves4_size : Int32} {v_shelves4_items : List Int64} {v_shelves5_holds : Int32} {v_shelves5_sort : Int32} {v_shelves5_size : Int32} {v_shelves5_items : List Int64} {m_shelf m_many : List Int32} {m_items : List Int64} (ok : ¬ ((0 ≤ x1.toInt ∧ x1.toInt ≤ 5) ∧ (0 ≤ x2.toInt ∧ x2.toInt ≤ 4) ∧ (0 ≤ x3.toInt ∧ x3.toInt ≤ 60))) : ∃ r : Int32, fX8_row 700 x1 x2 x3 v_shelves0_holds v_shelves0_sort v_shelves0_size v_shelves0_items v_shelves1_holds v_shelves1_sort v_shelves1_size v_shelves1_items v_shelves2_holds v_shelves2_sort v_shelves2_size v_shelves2_items v_shelves3_holds v_shelves3_sort v_shelves3_size v_shelves3_items v_shelves4_holds v_shelves4_sort v_shelves4_size v_shelves4_items v_shelves5_holds v_shelves5_sort v_shelves5_size v_shelves5_items = some (r, v_shelves0_holds, v_shelves0_sort, v_shelves0_size, v_shelves0_items, v_shelves1_holds, v_shelves1_sort, v_shelves1_size, v_shelves1_items, v_shelves2_holds, v_shelves2_sort, v_shelves2_size, v_shelves2_items, v_shelves3_holds, v_shelves3_sort, v_shelves3_size, v_shelves3_items, v_shelves4_holds, v_shelves4_sort, v_shelves4_size, v_shelves4_items, v_shelves5_holds, v_shelves5_sort, v_shelves5_size, v_shelves5_items) ∧ fX9_row 700 x1 x2 x3 m_shelf m_many m_items = some (r, m_shelf, m_many, m_items) := by
  have n60 : (60 : Int32).toInt = 60 := by decide
  have n5 : (5 : Int32).toInt = 5 := by decide
  have n0 : (0 : Int32).toInt = 0 := by decide
  have m0 : (0 : Int64).toInt = 0 := by decide
  have m4 : (4 : Int64).toInt = 4 := by decide
  have my := i_64 x2
  unfold fX8_row fX9_row
  rw [sh8_e, sh9_e, bs_1, bs_1]
  by_cases hx : 0 ≤ x1.toInt ∧ x1.toInt ≤ 5
  · rw [decide_eq_true hx, if_neg (show ¬ (true = false) by decide), if_neg (show ¬ (true = false) by decide)]
    obtain ⟨w, ew, qw⟩ := sf_X9_within (Nat.le_refl 700) (x0 := x2.toInt64) (x2 := 0) (x4 := 4)
    rw [ew, bs_1]
    rw [my, m0, m4] at qw
    rcases qw with ⟨rfl, y0, y1⟩ | ⟨rfl, y0⟩
    · rw [if_neg (show ¬ x2 < 0 by rw [Int32.lt_iff_toInt_lt]; omega), if_neg (show ¬ (5 : Int32) ≤ x2 by rw [Int32.le_iff_toInt_le]; omega), if_neg (show ¬ (true = false) by decide)]
      by_cases hz : x3 ≤ (60 : Int32)
      · rw [if_pos hz, if_pos hz]
        by_cases h0 : 0 ≤ x3
        · rw [Int32.le_iff_toInt_le] at hz h0
          exact absurd ⟨hx, ⟨y0, y1⟩, by omega, by omega⟩ ok
        · rw [if_neg h0, if_neg h0]
          exact ⟨_, rfl, rfl⟩
      · rw [if_neg hz, if_neg hz]
        exact ⟨_, rfl, rfl⟩
    · rw [if_pos (rfl : false = false)]
      by_cases c : x2 < 0
      · rw [if_pos c]
        exact ⟨_, rfl, rfl⟩
      · rw [if_neg c, if_pos (show (5 : Int32) ≤ x2 by rw [Int32.lt_iff_toInt_lt] at c; rw [Int32.le_iff_toInt_le]; omega)]
        exact ⟨_, rfl, rfl⟩
  · rw [decide_eq_false hx, if_pos rfl, if_pos rfl]
    exact ⟨_, rfl, rfl⟩
theorem rs_row_it {x1 : Int32} {x2 : Int32} {x3 : Int32} {v_shelves0_holds : Int32} {v_shelves0_sort : Int32} {v_shelves0_size : Int32} {v_shelves0_items : List Int64} {v_shelves1_holds : Int32} {v_shelves1_sort : Int32} {v_shelves1_size : Int32} {v_shelves1_items : List Int64} {v_shelves2_holds : Int32} {v_shelves2_sort : Int32} {v_shelves2_size : Int32} {v_shelves2_items : List Int64} {v_shelves3_holds : Int32} {v_shelves3_sort : Int32} {v_shelves3_size : Int32} {v_shelves3_items : List Int64} {v_shelves4_holds : Int32} {v_shelves4_sort : Int32} {v_shelves4_size : Int32} {v_shelves4_items : List Int64} {v_shelves5_holds : Int32} {v_shelves5_sort : Int32} {v_shelves5_size : Int32} {v_shelves5_items : List Int64} {v_foldings_size : Int32} {v_shelves0_body : Int32} {v_shelves1_body : Int32} {v_shelves2_body : Int32} {v_shelves3_body : Int32} {v_shelves4_body : Int32} {v_shelves5_body : Int32} {m_shelf : List Int32} {m_many : List Int32} {m_items : List Int64} {m_carried : List Int64} (g8_0 : gi_sf v_shelves0_size v_shelves0_items) (g8_1 : gi_sf v_shelves1_size v_shelves1_items) (g8_2 : gi_sf v_shelves2_size v_shelves2_items) (g8_3 : gi_sf v_shelves3_size v_shelves3_items) (g8_4 : gi_sf v_shelves4_size v_shelves4_items) (g8_5 : gi_sf v_shelves5_size v_shelves5_items) (g9_0 : gm_sf m_shelf m_many m_items m_carried) (hr_0 : rl_sc v_foldings_size v_shelves0_holds v_shelves0_body v_shelves0_sort v_shelves0_size v_shelves1_holds v_shelves1_body v_shelves1_sort v_shelves1_size v_shelves2_holds v_shelves2_body v_shelves2_sort v_shelves2_size v_shelves3_holds v_shelves3_body v_shelves3_sort v_shelves3_size v_shelves4_holds v_shelves4_body v_shelves4_sort v_shelves4_size v_shelves5_holds v_shelves5_body v_shelves5_sort v_shelves5_size m_shelf m_many) (hr_1 : rl_it v_shelves0_items v_shelves1_items v_shelves2_items v_shelves3_items v_shelves4_items v_shelves5_items m_items) : ∃ (r : Int32) (p_shelves0_holds : Int32) (p_shelves0_sort : Int32) (p_shelves0_size : Int32) (p_shelves0_items : List Int64) (p_shelves1_holds : Int32) (p_shelves1_sort : Int32) (p_shelves1_size : Int32) (p_shelves1_items : List Int64) (p_shelves2_holds : Int32) (p_shelves2_sort : Int32) (p_shelves2_size : Int32) (p_shelves2_items : List Int64) (p_shelves3_holds : Int32) (p_shelves3_sort : Int32) (p_shelves3_size : Int32) (p_shelves3_items : List Int64) (p_shelves4_holds : Int32) (p_shelves4_sort : Int32) (p_shelves4_size : Int32) (p_shelves4_items : List Int64) (p_shelves5_holds : Int32) (p_shelves5_sort : Int32) (p_shelves5_size : Int32) (p_shelves5_items : List Int64) (q_shelf : List Int32) (q_many : List Int32) (q_items : List Int64), fX8_row 700 x1 x2 x3 v_shelves0_holds v_shelves0_sort v_shelves0_size v_shelves0_items v_shelves1_holds v_shelves1_sort v_shelves1_size v_shelves1_items v_shelves2_holds v_shelves2_sort v_shelves2_size v_shelves2_items v_shelves3_holds v_shelves3_sort v_shelves3_size v_shelves3_items v_shelves4_holds v_shelves4_sort v_shelves4_size v_shelves4_items v_shelves5_holds v_shelves5_sort v_shelves5_size v_shelves5_items = some (r, p_shelves0_holds, p_shelves0_sort, p_shelves0_size, p_shelves0_items, p_shelves1_holds, p_shelves1_sort, p_shelves1_size, p_shelves1_items, p_shelves2_holds, p_shelves2_sort, p_shelves2_size, p_shelves2_items, p_shelves3_holds, p_shelves3_sort, p_shelves3_size, p_shelves3_items, p_shelves4_holds, p_shelves4_sort, p_shelves4_size, p_shelves4_items, p_shelves5_holds, p_shelves5_sort, p_shelves5_size, p_shelves5_items) ∧ fX9_row 700 x1 x2 x3 m_shelf m_many m_items = some (r, q_shelf, q_many, q_items) ∧ gi_sf p_shelves0_size p_shelves0_items ∧ gi_sf p_shelves1_size p_shelves1_items ∧ gi_sf p_shelves2_size p_shelves2_items ∧ gi_sf p_shelves3_size p_shelves3_items ∧ gi_sf p_shelves4_size p_shelves4_items ∧ gi_sf p_shelves5_size p_shelves5_items ∧ gm_sf q_shelf q_many q_items m_carried ∧ rl_sc v_foldings_size p_shelves0_holds v_shelves0_body p_shelves0_sort p_shelves0_size p_shelves1_holds v_shelves1_body p_shelves1_sort p_shelves1_size p_shelves2_holds v_shelves2_body p_shelves2_sort p_shelves2_size p_shelves3_holds v_shelves3_body p_shelves3_sort p_shelves3_size p_shelves4_holds v_shelves4_body p_shelves4_sort p_shelves4_size p_shelves5_holds v_shelves5_body p_shelves5_sort p_shelves5_size q_shelf q_many ∧ rl_it p_shelves0_items p_shelves1_items p_shelves2_items p_shelves3_items p_shelves4_items p_shelves5_items q_items := by
  obtain ⟨r, p0, p1, p2, p3, p4, p5, p6, p7, p8, p9, p10, p11, p12, p13, p14, p15, p16, p17, p18, p19, p20, p21, p22, p23, q0, q1, q2, e8, e9, k0, k1, k2, k3, k4, k5, k9, S⟩ := rs_row_sc (x1 := x1) (x2 := x2) (x3 := x3) g8_0 g8_1 g8_2 g8_3 g8_4 g8_5 g9_0 hr_0
  obtain ⟨b0, b1, b2, b3, b4⟩ := id g9_0
  obtain ⟨-, -, l0⟩ := id g8_0
  obtain ⟨-, -, l1⟩ := id g8_1
  obtain ⟨-, -, l2⟩ := id g8_2
  obtain ⟨-, -, l3⟩ := id g8_3
  obtain ⟨-, -, l4⟩ := id g8_4
  obtain ⟨-, -, l5⟩ := id g8_5
  have R : rl_it p3 p7 p11 p15 p19 p23 q2 := by
    by_cases ok : (0 ≤ x1.toInt ∧ x1.toInt ≤ 5) ∧ (0 ≤ x2.toInt ∧ x2.toInt ≤ 4) ∧ (0 ≤ x3.toInt ∧ x3.toInt ≤ 60)
    · exact rw_it ok.1.1 ok.1.2 ok.2.1.1 ok.2.1.2 b0 b1 b2 l0 l1 l2 l3 l4 l5 hr_1 e8 e9 ok.2.2.1 ok.2.2.2
    · have X : fX8_row 700 x1 x2 x3 v_shelves0_holds v_shelves0_sort v_shelves0_size v_shelves0_items v_shelves1_holds v_shelves1_sort v_shelves1_size v_shelves1_items v_shelves2_holds v_shelves2_sort v_shelves2_size v_shelves2_items v_shelves3_holds v_shelves3_sort v_shelves3_size v_shelves3_items v_shelves4_holds v_shelves4_sort v_shelves4_size v_shelves4_items v_shelves5_holds v_shelves5_sort v_shelves5_size v_shelves5_items = some (r, v_shelves0_holds, v_shelves0_sort, v_shelves0_size, v_shelves0_items, v_shelves1_holds, v_shelves1_sort, v_shelves1_size, v_shelves1_items, v_shelves2_holds, v_shelves2_sort, v_shelves2_size, v_shelves2_items, v_shelves3_holds, v_shelves3_sort, v_shelves3_size, v_shelves3_items, v_shelves4_holds, v_shelves4_sort, v_shelves4_size, v_shelves4_items, v_shelves5_holds, v_shelves5_sort, v_shelves5_size, v_shelves5_items) ∧ fX9_row 700 x1 x2 x3 m_shelf m_many m_items = some (r, m_shelf, m_many, m_items) := by
        obtain ⟨r', f8, f9⟩ := rw_no (x1 := x1) (x2 := x2) (x3 := x3) (v_shelves0_holds := v_shelves0_holds) (v_shelves0_sort := v_shelves0_sort) (v_shelves0_size := v_shelves0_size) (v_shelves0_items := v_shelves0_items) (v_shelves1_holds := v_shelves1_holds) (v_shelves1_sort := v_shelves1_sort) (v_shelves1_size := v_shelves1_size) (v_shelves1_items := v_shelves1_items) (v_shelves2_holds := v_shelves2_holds) (v_shelves2_sort := v_shelves2_sort) (v_shelves2_size := v_shelves2_size) (v_shelves2_items := v_shelves2_items) (v_shelves3_holds := v_shelves3_holds) (v_shelves3_sort := v_shelves3_sort) (v_shelves3_size := v_shelves3_size) (v_shelves3_items := v_shelves3_items) (v_shelves4_holds := v_shelves4_holds) (v_shelves4_sort := v_shelves4_sort) (v_shelves4_size := v_shelves4_size) (v_shelves4_items := v_shelves4_items) (v_shelves5_holds := v_shelves5_holds) (v_shelves5_sort := v_shelves5_sort) (v_shelves5_size := v_shelves5_size) (v_shelves5_items := v_shelves5_items) (m_shelf := m_shelf) (m_many := m_many) (m_items := m_items) ok
        rw [f8] at e8
        injection e8 with e8
        injection e8 with e8 _
        rw [f8, f9, e8]
        exact ⟨rfl, rfl⟩
      have z8 := e8.symm.trans X.1
      have z9 := e9.symm.trans X.2
      injection z8 with z8
      injection z8 with s0 z8
      injection z8 with s1 z8
      injection z8 with s2 z8
      injection z8 with s3 z8
      injection z8 with s4 z8
      injection z8 with s5 z8
      injection z8 with s6 z8
      injection z8 with s7 z8
      injection z8 with s8 z8
      injection z8 with s9 z8
      injection z8 with s10 z8
      injection z8 with s11 z8
      injection z8 with s12 z8
      injection z8 with s13 z8
      injection z8 with s14 z8
      injection z8 with s15 z8
      injection z8 with s16 z8
      injection z8 with s17 z8
      injection z8 with s18 z8
      injection z8 with s19 z8
      injection z8 with s20 z8
      injection z8 with s21 z8
      injection z8 with s22 z8
      injection z8 with s23 z8
      injection z9 with z9
      injection z9 with y0 z9
      injection z9 with y1 z9
      injection z9 with y2 z9
      subst s1 s2 s3 s4 s5 s6 s7 s8 s9 s10 s11 s12 s13 s14 s15 s16 s17 s18 s19 s20 s21 s22 s23 z8 z9
      exact hr_1
  exact ⟨_, _, _, _, _, _, _, _, _, _, _, _, _, _, _, _, _, _, _, _, _, _, _, _, _, _, _, _, e8, e9, k0, k1, k2, k3, k4, k5, k9, S, R⟩
end
section
/-! put, element: items -/
theorem rf_h0 {x2 nb b : Int32} {v_shelves0_holds : Int32} {v_shelves0_size : Int32} {v_shelves1_holds : Int32} {v_shelves1_size : Int32} {v_shelves2_holds : Int32} {v_shelves2_size : Int32} {v_shelves3_holds : Int32} {v_shelves3_size : Int32} {v_shelves4_holds : Int32} {v_shelves4_size : Int32} {v_shelves5_holds : Int32} {v_shelves5_size : Int32} {s : Int32} {z : Int32} {shelf many : List Int32} (H : sc1 0 nb v_shelves0_holds b s z shelf many) (f8 : fX8_refusedElement 700 (0 : Int32) x2 v_shelves0_holds v_shelves0_size v_shelves1_holds v_shelves1_size v_shelves2_holds v_shelves2_size v_shelves3_holds v_shelves3_size v_shelves4_holds v_shelves4_size v_shelves5_holds v_shelves5_size = some (0 : Int32)) : mm_ig shelf 0 = (50 : Int32) + s ∧ 0 ≤ s.toInt ∧ s.toInt ≤ 4 := by
  unfold fX8_refusedElement at f8
  rw [sh8_e, bs_1, decide_eq_true (show 0 ≤ (0 : Int32).toInt ∧ (0 : Int32).toInt ≤ 5 by decide), if_neg (show ¬ (true = false) by decide), if_pos (rfl : (0 : Int32) = 0)] at f8
  rcases H with ⟨h1, h2⟩ | ⟨h1, h2⟩ | ⟨h1, h2, h3, h4, h5⟩
  · rw [h1, if_pos rfl] at f8
    injection f8 with f8
    exact absurd f8 (by decide)
  · rw [h1, if_neg (show ¬ (1 : Int32) = 0 by decide), if_pos rfl] at f8
    injection f8 with f8
    exact absurd f8 (by decide)
  · exact ⟨h2, h3, h4⟩
theorem rf_h1 {x2 nb b : Int32} {v_shelves0_holds : Int32} {v_shelves0_size : Int32} {v_shelves1_holds : Int32} {v_shelves1_size : Int32} {v_shelves2_holds : Int32} {v_shelves2_size : Int32} {v_shelves3_holds : Int32} {v_shelves3_size : Int32} {v_shelves4_holds : Int32} {v_shelves4_size : Int32} {v_shelves5_holds : Int32} {v_shelves5_size : Int32} {s : Int32} {z : Int32} {shelf many : List Int32} (H : sc1 1 nb v_shelves1_holds b s z shelf many) (f8 : fX8_refusedElement 700 (1 : Int32) x2 v_shelves0_holds v_shelves0_size v_shelves1_holds v_shelves1_size v_shelves2_holds v_shelves2_size v_shelves3_holds v_shelves3_size v_shelves4_holds v_shelves4_size v_shelves5_holds v_shelves5_size = some (0 : Int32)) : mm_ig shelf 1 = (50 : Int32) + s ∧ 0 ≤ s.toInt ∧ s.toInt ≤ 4 := by
  unfold fX8_refusedElement at f8
  rw [sh8_e, bs_1, decide_eq_true (show 0 ≤ (1 : Int32).toInt ∧ (1 : Int32).toInt ≤ 5 by decide), if_neg (show ¬ (true = false) by decide), if_neg (show ¬ (1 : Int32) = 0 by decide), if_pos (rfl : (1 : Int32) = 1)] at f8
  rcases H with ⟨h1, h2⟩ | ⟨h1, h2⟩ | ⟨h1, h2, h3, h4, h5⟩
  · rw [h1, if_pos rfl] at f8
    injection f8 with f8
    exact absurd f8 (by decide)
  · rw [h1, if_neg (show ¬ (1 : Int32) = 0 by decide), if_pos rfl] at f8
    injection f8 with f8
    exact absurd f8 (by decide)
  · exact ⟨h2, h3, h4⟩
theorem rf_h2 {x2 nb b : Int32} {v_shelves0_holds : Int32} {v_shelves0_size : Int32} {v_shelves1_holds : Int32} {v_shelves1_size : Int32} {v_shelves2_holds : Int32} {v_shelves2_size : Int32} {v_shelves3_holds : Int32} {v_shelves3_size : Int32} {v_shelves4_holds : Int32} {v_shelves4_size : Int32} {v_shelves5_holds : Int32} {v_shelves5_size : Int32} {s : Int32} {z : Int32} {shelf many : List Int32} (H : sc1 2 nb v_shelves2_holds b s z shelf many) (f8 : fX8_refusedElement 700 (2 : Int32) x2 v_shelves0_holds v_shelves0_size v_shelves1_holds v_shelves1_size v_shelves2_holds v_shelves2_size v_shelves3_holds v_shelves3_size v_shelves4_holds v_shelves4_size v_shelves5_holds v_shelves5_size = some (0 : Int32)) : mm_ig shelf 2 = (50 : Int32) + s ∧ 0 ≤ s.toInt ∧ s.toInt ≤ 4 := by
  unfold fX8_refusedElement at f8
  rw [sh8_e, bs_1, decide_eq_true (show 0 ≤ (2 : Int32).toInt ∧ (2 : Int32).toInt ≤ 5 by decide), if_neg (show ¬ (true = false) by decide), if_neg (show ¬ (2 : Int32) = 0 by decide), if_neg (show ¬ (2 : Int32) = 1 by decide), if_pos (rfl : (2 : Int32) = 2)] at f8
  rcases H with ⟨h1, h2⟩ | ⟨h1, h2⟩ | ⟨h1, h2, h3, h4, h5⟩
  · rw [h1, if_pos rfl] at f8
    injection f8 with f8
    exact absurd f8 (by decide)
  · rw [h1, if_neg (show ¬ (1 : Int32) = 0 by decide), if_pos rfl] at f8
    injection f8 with f8
    exact absurd f8 (by decide)
  · exact ⟨h2, h3, h4⟩
theorem rf_h3 {x2 nb b : Int32} {v_shelves0_holds : Int32} {v_shelves0_size : Int32} {v_shelves1_holds : Int32} {v_shelves1_size : Int32} {v_shelves2_holds : Int32} {v_shelves2_size : Int32} {v_shelves3_holds : Int32} {v_shelves3_size : Int32} {v_shelves4_holds : Int32} {v_shelves4_size : Int32} {v_shelves5_holds : Int32} {v_shelves5_size : Int32} {s : Int32} {z : Int32} {shelf many : List Int32} (H : sc1 3 nb v_shelves3_holds b s z shelf many) (f8 : fX8_refusedElement 700 (3 : Int32) x2 v_shelves0_holds v_shelves0_size v_shelves1_holds v_shelves1_size v_shelves2_holds v_shelves2_size v_shelves3_holds v_shelves3_size v_shelves4_holds v_shelves4_size v_shelves5_holds v_shelves5_size = some (0 : Int32)) : mm_ig shelf 3 = (50 : Int32) + s ∧ 0 ≤ s.toInt ∧ s.toInt ≤ 4 := by
  unfold fX8_refusedElement at f8
  rw [sh8_e, bs_1, decide_eq_true (show 0 ≤ (3 : Int32).toInt ∧ (3 : Int32).toInt ≤ 5 by decide), if_neg (show ¬ (true = false) by decide), if_neg (show ¬ (3 : Int32) = 0 by decide), if_neg (show ¬ (3 : Int32) = 1 by decide), if_neg (show ¬ (3 : Int32) = 2 by decide), if_pos (rfl : (3 : Int32) = 3)] at f8
  rcases H with ⟨h1, h2⟩ | ⟨h1, h2⟩ | ⟨h1, h2, h3, h4, h5⟩
  · rw [h1, if_pos rfl] at f8
    injection f8 with f8
    exact absurd f8 (by decide)
  · rw [h1, if_neg (show ¬ (1 : Int32) = 0 by decide), if_pos rfl] at f8
    injection f8 with f8
    exact absurd f8 (by decide)
  · exact ⟨h2, h3, h4⟩
theorem rf_h4 {x2 nb b : Int32} {v_shelves0_holds : Int32} {v_shelves0_size : Int32} {v_shelves1_holds : Int32} {v_shelves1_size : Int32} {v_shelves2_holds : Int32} {v_shelves2_size : Int32} {v_shelves3_holds : Int32} {v_shelves3_size : Int32} {v_shelves4_holds : Int32} {v_shelves4_size : Int32} {v_shelves5_holds : Int32} {v_shelves5_size : Int32} {s : Int32} {z : Int32} {shelf many : List Int32} (H : sc1 4 nb v_shelves4_holds b s z shelf many) (f8 : fX8_refusedElement 700 (4 : Int32) x2 v_shelves0_holds v_shelves0_size v_shelves1_holds v_shelves1_size v_shelves2_holds v_shelves2_size v_shelves3_holds v_shelves3_size v_shelves4_holds v_shelves4_size v_shelves5_holds v_shelves5_size = some (0 : Int32)) : mm_ig shelf 4 = (50 : Int32) + s ∧ 0 ≤ s.toInt ∧ s.toInt ≤ 4 := by
  unfold fX8_refusedElement at f8
  rw [sh8_e, bs_1, decide_eq_true (show 0 ≤ (4 : Int32).toInt ∧ (4 : Int32).toInt ≤ 5 by decide), if_neg (show ¬ (true = false) by decide), if_neg (show ¬ (4 : Int32) = 0 by decide), if_neg (show ¬ (4 : Int32) = 1 by decide), if_neg (show ¬ (4 : Int32) = 2 by decide), if_neg (show ¬ (4 : Int32) = 3 by decide), if_pos (rfl : (4 : Int32) = 4)] at f8
  rcases H with ⟨h1, h2⟩ | ⟨h1, h2⟩ | ⟨h1, h2, h3, h4, h5⟩
  · rw [h1, if_pos rfl] at f8
    injection f8 with f8
    exact absurd f8 (by decide)
  · rw [h1, if_neg (show ¬ (1 : Int32) = 0 by decide), if_pos rfl] at f8
    injection f8 with f8
    exact absurd f8 (by decide)
  · exact ⟨h2, h3, h4⟩
theorem rf_h5 {x2 nb b : Int32} {v_shelves0_holds : Int32} {v_shelves0_size : Int32} {v_shelves1_holds : Int32} {v_shelves1_size : Int32} {v_shelves2_holds : Int32} {v_shelves2_size : Int32} {v_shelves3_holds : Int32} {v_shelves3_size : Int32} {v_shelves4_holds : Int32} {v_shelves4_size : Int32} {v_shelves5_holds : Int32} {v_shelves5_size : Int32} {s : Int32} {z : Int32} {shelf many : List Int32} (H : sc1 5 nb v_shelves5_holds b s z shelf many) (f8 : fX8_refusedElement 700 (5 : Int32) x2 v_shelves0_holds v_shelves0_size v_shelves1_holds v_shelves1_size v_shelves2_holds v_shelves2_size v_shelves3_holds v_shelves3_size v_shelves4_holds v_shelves4_size v_shelves5_holds v_shelves5_size = some (0 : Int32)) : mm_ig shelf 5 = (50 : Int32) + s ∧ 0 ≤ s.toInt ∧ s.toInt ≤ 4 := by
  unfold fX8_refusedElement at f8
  rw [sh8_e, bs_1, decide_eq_true (show 0 ≤ (5 : Int32).toInt ∧ (5 : Int32).toInt ≤ 5 by decide), if_neg (show ¬ (true = false) by decide), if_neg (show ¬ (5 : Int32) = 0 by decide), if_neg (show ¬ (5 : Int32) = 1 by decide), if_neg (show ¬ (5 : Int32) = 2 by decide), if_neg (show ¬ (5 : Int32) = 3 by decide), if_neg (show ¬ (5 : Int32) = 4 by decide), if_pos (rfl : (5 : Int32) = 5)] at f8
  rcases H with ⟨h1, h2⟩ | ⟨h1, h2⟩ | ⟨h1, h2, h3, h4, h5⟩
  · rw [h1, if_pos rfl] at f8
    injection f8 with f8
    exact absurd f8 (by decide)
  · rw [h1, if_neg (show ¬ (1 : Int32) = 0 by decide), if_pos rfl] at f8
    injection f8 with f8
    exact absurd f8 (by decide)
  · exact ⟨h2, h3, h4⟩
set_option maxHeartbeats 4000000 in
theorem rs_put_it {x1 : Int32} {x2 : Int32} {x3 : Int64} {v_shelves0_holds : Int32} {v_shelves0_sort : Int32} {v_shelves0_size : Int32} {v_shelves0_items : List Int64} {v_shelves1_holds : Int32} {v_shelves1_sort : Int32} {v_shelves1_size : Int32} {v_shelves1_items : List Int64} {v_shelves2_holds : Int32} {v_shelves2_sort : Int32} {v_shelves2_size : Int32} {v_shelves2_items : List Int64} {v_shelves3_holds : Int32} {v_shelves3_sort : Int32} {v_shelves3_size : Int32} {v_shelves3_items : List Int64} {v_shelves4_holds : Int32} {v_shelves4_sort : Int32} {v_shelves4_size : Int32} {v_shelves4_items : List Int64} {v_shelves5_holds : Int32} {v_shelves5_sort : Int32} {v_shelves5_size : Int32} {v_shelves5_items : List Int64} {v_foldings_size : Int32} {v_shelves0_body : Int32} {v_shelves1_body : Int32} {v_shelves2_body : Int32} {v_shelves3_body : Int32} {v_shelves4_body : Int32} {v_shelves5_body : Int32} {m_shelf : List Int32} {m_many : List Int32} {m_items : List Int64} {m_carried : List Int64} (g8_0 : gi_sf v_shelves0_size v_shelves0_items) (g8_1 : gi_sf v_shelves1_size v_shelves1_items) (g8_2 : gi_sf v_shelves2_size v_shelves2_items) (g8_3 : gi_sf v_shelves3_size v_shelves3_items) (g8_4 : gi_sf v_shelves4_size v_shelves4_items) (g8_5 : gi_sf v_shelves5_size v_shelves5_items) (g9_0 : gm_sf m_shelf m_many m_items m_carried) (hr_0 : rl_sc v_foldings_size v_shelves0_holds v_shelves0_body v_shelves0_sort v_shelves0_size v_shelves1_holds v_shelves1_body v_shelves1_sort v_shelves1_size v_shelves2_holds v_shelves2_body v_shelves2_sort v_shelves2_size v_shelves3_holds v_shelves3_body v_shelves3_sort v_shelves3_size v_shelves4_holds v_shelves4_body v_shelves4_sort v_shelves4_size v_shelves5_holds v_shelves5_body v_shelves5_sort v_shelves5_size m_shelf m_many) (hr_1 : rl_it v_shelves0_items v_shelves1_items v_shelves2_items v_shelves3_items v_shelves4_items v_shelves5_items m_items) : ∃ (r : Int32) (p_shelves0_items : List Int64) (p_shelves1_items : List Int64) (p_shelves2_items : List Int64) (p_shelves3_items : List Int64) (p_shelves4_items : List Int64) (p_shelves5_items : List Int64) (q_items : List Int64), fX8_put 700 x1 x2 x3 v_shelves0_holds v_shelves0_sort v_shelves0_size v_shelves0_items v_shelves1_holds v_shelves1_sort v_shelves1_size v_shelves1_items v_shelves2_holds v_shelves2_sort v_shelves2_size v_shelves2_items v_shelves3_holds v_shelves3_sort v_shelves3_size v_shelves3_items v_shelves4_holds v_shelves4_sort v_shelves4_size v_shelves4_items v_shelves5_holds v_shelves5_sort v_shelves5_size v_shelves5_items = some (r, p_shelves0_items, p_shelves1_items, p_shelves2_items, p_shelves3_items, p_shelves4_items, p_shelves5_items) ∧ fX9_put 700 x1 x2 x3 m_shelf m_many m_items = some (r, q_items) ∧ gi_sf v_shelves0_size p_shelves0_items ∧ gi_sf v_shelves1_size p_shelves1_items ∧ gi_sf v_shelves2_size p_shelves2_items ∧ gi_sf v_shelves3_size p_shelves3_items ∧ gi_sf v_shelves4_size p_shelves4_items ∧ gi_sf v_shelves5_size p_shelves5_items ∧ gm_sf m_shelf m_many q_items m_carried ∧ rl_sc v_foldings_size v_shelves0_holds v_shelves0_body v_shelves0_sort v_shelves0_size v_shelves1_holds v_shelves1_body v_shelves1_sort v_shelves1_size v_shelves2_holds v_shelves2_body v_shelves2_sort v_shelves2_size v_shelves3_holds v_shelves3_body v_shelves3_sort v_shelves3_size v_shelves4_holds v_shelves4_body v_shelves4_sort v_shelves4_size v_shelves5_holds v_shelves5_body v_shelves5_sort v_shelves5_size m_shelf m_many ∧ rl_it p_shelves0_items p_shelves1_items p_shelves2_items p_shelves3_items p_shelves4_items p_shelves5_items q_items := by
  obtain ⟨b0, b1, b2, b3, b4⟩ := id g9_0
  obtain ⟨a0, d0, l0⟩ := id g8_0
  obtain ⟨a1, d1, l1⟩ := id g8_1
  obtain ⟨a2, d2, l2⟩ := id g8_2
  obtain ⟨a3, d3, l3⟩ := id g8_3
  obtain ⟨a4, d4, l4⟩ := id g8_4
  obtain ⟨a5, d5, l5⟩ := id g8_5
  obtain ⟨c0, c1, c2, c3, c4, c5⟩ := id hr_0
  obtain ⟨t0, t1, t2, t3, t4, t5⟩ := id hr_1
  have tf : ¬ (true = false) := by decide
  have n60 : (60 : Int32).toInt = 60 := by decide
  obtain ⟨w, f8, f9, hw⟩ := rf_e (x1 := x1) (x2 := x2) b0 b1 a0 d0 a1 d1 a2 d2 a3 d3 a4 d4 a5 d5 hr_0
  obtain ⟨⟨r8, p0, p1, p2, p3, p4, p5⟩, e8, -⟩ := st8_put (x1 := x1) (x2 := x2) (x3 := x3) (v_shelves0_holds := v_shelves0_holds) (v_shelves0_sort := v_shelves0_sort) (v_shelves1_holds := v_shelves1_holds) (v_shelves1_sort := v_shelves1_sort) (v_shelves2_holds := v_shelves2_holds) (v_shelves2_sort := v_shelves2_sort) (v_shelves3_holds := v_shelves3_holds) (v_shelves3_sort := v_shelves3_sort) (v_shelves4_holds := v_shelves4_holds) (v_shelves4_sort := v_shelves4_sort) (v_shelves5_holds := v_shelves5_holds) (v_shelves5_sort := v_shelves5_sort) g8_0 g8_1 g8_2 g8_3 g8_4 g8_5
  have X : ∃ (r : Int32) (p0 p1 p2 p3 p4 p5 q : List Int64), fX8_put 700 x1 x2 x3 v_shelves0_holds v_shelves0_sort v_shelves0_size v_shelves0_items v_shelves1_holds v_shelves1_sort v_shelves1_size v_shelves1_items v_shelves2_holds v_shelves2_sort v_shelves2_size v_shelves2_items v_shelves3_holds v_shelves3_sort v_shelves3_size v_shelves3_items v_shelves4_holds v_shelves4_sort v_shelves4_size v_shelves4_items v_shelves5_holds v_shelves5_sort v_shelves5_size v_shelves5_items = some (r, p0, p1, p2, p3, p4, p5) ∧ fX9_put 700 x1 x2 x3 m_shelf m_many m_items = some (r, q) ∧ rl_it p0 p1 p2 p3 p4 p5 q := by
    have g8 := e8
    clear e8
    unfold fX8_put at g8
    rw [f8, bs_1] at g8
    unfold fX8_put fX9_put
    rw [f8, f9, bs_1, bs_1]
    by_cases h : w = 0
    · rw [if_pos h] at g8
      rw [if_pos h, if_pos h]
      subst h
      have hx := hw rfl
      rcases k6 hx.1 hx.2 with rfl | rfl | rfl | rfl | rfl | rfl
      · rw [if_pos (rfl : (0 : Int32) = 0)] at g8
        rw [if_pos (rfl : (0 : Int32) = 0)]
        obtain ⟨u0, u1, u2⟩ := rf_h0 c0 f8
        unfold fX6_store at g8 ⊢
        obtain ⟨b, eb, -⟩ := sf_X6_lowestBits (Nat.le_refl 700) (x1 := x3) (v_sort := v_shelves0_sort)
        rw [eb, bs_1] at g8
        obtain ⟨v, ev, -⟩ := bi_1 g8
        have hb := inb_c (ck_c ev)
        have nk : (0 : Int32).toInt = 0 := by decide
        rw [show ((60 : Int32) * (0 : Int32)) = (0 : Int32) by decide]
        generalize hzz : (0 : Int32) + x2 = z
        have ez := i_addE hzz (by omega) (by omega)
        have hz : z.toInt = 60 * ((0 : Nat) : Int) + x2.toInt := by omega
        rw [ck_t (i_inb hx.1 (by omega)), u0, as_e u1 u2, eb, bs_1, bs_1, ck_t (ck_c ev), nm_eq, bs_1, ck_t (i_inb (by omega) (by omega)), nm_eq]
        unfold fX9_put_37
        rw [if_pos (rfl : (0 : Int32) = 0)]
        exact ⟨_, _, _, _, _, _, _, _, rfl, rfl, ⟨it_ls hz hb.1 (by omega) l0 b2 (by decide) t0, it_ln hz hb.1 (by omega) b2 (by decide) (by decide) t1, it_ln hz hb.1 (by omega) b2 (by decide) (by decide) t2, it_ln hz hb.1 (by omega) b2 (by decide) (by decide) t3, it_ln hz hb.1 (by omega) b2 (by decide) (by decide) t4, it_ln hz hb.1 (by omega) b2 (by decide) (by decide) t5⟩⟩
      · rw [if_neg (show ¬ (1 : Int32) = 0 by decide), if_pos (rfl : (1 : Int32) = 1)] at g8
        rw [if_neg (show ¬ (1 : Int32) = 0 by decide), if_pos (rfl : (1 : Int32) = 1)]
        obtain ⟨u0, u1, u2⟩ := rf_h1 c1 f8
        unfold fX6_store at g8 ⊢
        obtain ⟨b, eb, -⟩ := sf_X6_lowestBits (Nat.le_refl 700) (x1 := x3) (v_sort := v_shelves1_sort)
        rw [eb, bs_1] at g8
        obtain ⟨v, ev, -⟩ := bi_1 g8
        have hb := inb_c (ck_c ev)
        have nk : (60 : Int32).toInt = 60 := by decide
        rw [show ((60 : Int32) * (1 : Int32)) = (60 : Int32) by decide]
        generalize hzz : (60 : Int32) + x2 = z
        have ez := i_addE hzz (by omega) (by omega)
        have hz : z.toInt = 60 * ((1 : Nat) : Int) + x2.toInt := by omega
        rw [ck_t (i_inb hx.1 (by omega)), u0, as_e u1 u2, eb, bs_1, bs_1, ck_t (ck_c ev), nm_eq, bs_1, ck_t (i_inb (by omega) (by omega)), nm_eq]
        unfold fX9_put_37
        rw [if_pos (rfl : (0 : Int32) = 0)]
        exact ⟨_, _, _, _, _, _, _, _, rfl, rfl, ⟨it_ln hz hb.1 (by omega) b2 (by decide) (by decide) t0, it_ls hz hb.1 (by omega) l1 b2 (by decide) t1, it_ln hz hb.1 (by omega) b2 (by decide) (by decide) t2, it_ln hz hb.1 (by omega) b2 (by decide) (by decide) t3, it_ln hz hb.1 (by omega) b2 (by decide) (by decide) t4, it_ln hz hb.1 (by omega) b2 (by decide) (by decide) t5⟩⟩
      · rw [if_neg (show ¬ (2 : Int32) = 0 by decide), if_neg (show ¬ (2 : Int32) = 1 by decide), if_pos (rfl : (2 : Int32) = 2)] at g8
        rw [if_neg (show ¬ (2 : Int32) = 0 by decide), if_neg (show ¬ (2 : Int32) = 1 by decide), if_pos (rfl : (2 : Int32) = 2)]
        obtain ⟨u0, u1, u2⟩ := rf_h2 c2 f8
        unfold fX6_store at g8 ⊢
        obtain ⟨b, eb, -⟩ := sf_X6_lowestBits (Nat.le_refl 700) (x1 := x3) (v_sort := v_shelves2_sort)
        rw [eb, bs_1] at g8
        obtain ⟨v, ev, -⟩ := bi_1 g8
        have hb := inb_c (ck_c ev)
        have nk : (120 : Int32).toInt = 120 := by decide
        rw [show ((60 : Int32) * (2 : Int32)) = (120 : Int32) by decide]
        generalize hzz : (120 : Int32) + x2 = z
        have ez := i_addE hzz (by omega) (by omega)
        have hz : z.toInt = 60 * ((2 : Nat) : Int) + x2.toInt := by omega
        rw [ck_t (i_inb hx.1 (by omega)), u0, as_e u1 u2, eb, bs_1, bs_1, ck_t (ck_c ev), nm_eq, bs_1, ck_t (i_inb (by omega) (by omega)), nm_eq]
        unfold fX9_put_37
        rw [if_pos (rfl : (0 : Int32) = 0)]
        exact ⟨_, _, _, _, _, _, _, _, rfl, rfl, ⟨it_ln hz hb.1 (by omega) b2 (by decide) (by decide) t0, it_ln hz hb.1 (by omega) b2 (by decide) (by decide) t1, it_ls hz hb.1 (by omega) l2 b2 (by decide) t2, it_ln hz hb.1 (by omega) b2 (by decide) (by decide) t3, it_ln hz hb.1 (by omega) b2 (by decide) (by decide) t4, it_ln hz hb.1 (by omega) b2 (by decide) (by decide) t5⟩⟩
      · rw [if_neg (show ¬ (3 : Int32) = 0 by decide), if_neg (show ¬ (3 : Int32) = 1 by decide), if_neg (show ¬ (3 : Int32) = 2 by decide), if_pos (rfl : (3 : Int32) = 3)] at g8
        rw [if_neg (show ¬ (3 : Int32) = 0 by decide), if_neg (show ¬ (3 : Int32) = 1 by decide), if_neg (show ¬ (3 : Int32) = 2 by decide), if_pos (rfl : (3 : Int32) = 3)]
        obtain ⟨u0, u1, u2⟩ := rf_h3 c3 f8
        unfold fX6_store at g8 ⊢
        obtain ⟨b, eb, -⟩ := sf_X6_lowestBits (Nat.le_refl 700) (x1 := x3) (v_sort := v_shelves3_sort)
        rw [eb, bs_1] at g8
        obtain ⟨v, ev, -⟩ := bi_1 g8
        have hb := inb_c (ck_c ev)
        have nk : (180 : Int32).toInt = 180 := by decide
        rw [show ((60 : Int32) * (3 : Int32)) = (180 : Int32) by decide]
        generalize hzz : (180 : Int32) + x2 = z
        have ez := i_addE hzz (by omega) (by omega)
        have hz : z.toInt = 60 * ((3 : Nat) : Int) + x2.toInt := by omega
        rw [ck_t (i_inb hx.1 (by omega)), u0, as_e u1 u2, eb, bs_1, bs_1, ck_t (ck_c ev), nm_eq, bs_1, ck_t (i_inb (by omega) (by omega)), nm_eq]
        unfold fX9_put_37
        rw [if_pos (rfl : (0 : Int32) = 0)]
        exact ⟨_, _, _, _, _, _, _, _, rfl, rfl, ⟨it_ln hz hb.1 (by omega) b2 (by decide) (by decide) t0, it_ln hz hb.1 (by omega) b2 (by decide) (by decide) t1, it_ln hz hb.1 (by omega) b2 (by decide) (by decide) t2, it_ls hz hb.1 (by omega) l3 b2 (by decide) t3, it_ln hz hb.1 (by omega) b2 (by decide) (by decide) t4, it_ln hz hb.1 (by omega) b2 (by decide) (by decide) t5⟩⟩
      · rw [if_neg (show ¬ (4 : Int32) = 0 by decide), if_neg (show ¬ (4 : Int32) = 1 by decide), if_neg (show ¬ (4 : Int32) = 2 by decide), if_neg (show ¬ (4 : Int32) = 3 by decide), if_pos (rfl : (4 : Int32) = 4)] at g8
        rw [if_neg (show ¬ (4 : Int32) = 0 by decide), if_neg (show ¬ (4 : Int32) = 1 by decide), if_neg (show ¬ (4 : Int32) = 2 by decide), if_neg (show ¬ (4 : Int32) = 3 by decide), if_pos (rfl : (4 : Int32) = 4)]
        obtain ⟨u0, u1, u2⟩ := rf_h4 c4 f8
        unfold fX6_store at g8 ⊢
        obtain ⟨b, eb, -⟩ := sf_X6_lowestBits (Nat.le_refl 700) (x1 := x3) (v_sort := v_shelves4_sort)
        rw [eb, bs_1] at g8
        obtain ⟨v, ev, -⟩ := bi_1 g8
        have hb := inb_c (ck_c ev)
        have nk : (240 : Int32).toInt = 240 := by decide
        rw [show ((60 : Int32) * (4 : Int32)) = (240 : Int32) by decide]
        generalize hzz : (240 : Int32) + x2 = z
        have ez := i_addE hzz (by omega) (by omega)
        have hz : z.toInt = 60 * ((4 : Nat) : Int) + x2.toInt := by omega
        rw [ck_t (i_inb hx.1 (by omega)), u0, as_e u1 u2, eb, bs_1, bs_1, ck_t (ck_c ev), nm_eq, bs_1, ck_t (i_inb (by omega) (by omega)), nm_eq]
        unfold fX9_put_37
        rw [if_pos (rfl : (0 : Int32) = 0)]
        exact ⟨_, _, _, _, _, _, _, _, rfl, rfl, ⟨it_ln hz hb.1 (by omega) b2 (by decide) (by decide) t0, it_ln hz hb.1 (by omega) b2 (by decide) (by decide) t1, it_ln hz hb.1 (by omega) b2 (by decide) (by decide) t2, it_ln hz hb.1 (by omega) b2 (by decide) (by decide) t3, it_ls hz hb.1 (by omega) l4 b2 (by decide) t4, it_ln hz hb.1 (by omega) b2 (by decide) (by decide) t5⟩⟩
      · rw [if_neg (show ¬ (5 : Int32) = 0 by decide), if_neg (show ¬ (5 : Int32) = 1 by decide), if_neg (show ¬ (5 : Int32) = 2 by decide), if_neg (show ¬ (5 : Int32) = 3 by decide), if_neg (show ¬ (5 : Int32) = 4 by decide), if_pos (rfl : (5 : Int32) = 5)] at g8
        rw [if_neg (show ¬ (5 : Int32) = 0 by decide), if_neg (show ¬ (5 : Int32) = 1 by decide), if_neg (show ¬ (5 : Int32) = 2 by decide), if_neg (show ¬ (5 : Int32) = 3 by decide), if_neg (show ¬ (5 : Int32) = 4 by decide), if_pos (rfl : (5 : Int32) = 5)]
        obtain ⟨u0, u1, u2⟩ := rf_h5 c5 f8
        unfold fX6_store at g8 ⊢
        obtain ⟨b, eb, -⟩ := sf_X6_lowestBits (Nat.le_refl 700) (x1 := x3) (v_sort := v_shelves5_sort)
        rw [eb, bs_1] at g8
        obtain ⟨v, ev, -⟩ := bi_1 g8
        have hb := inb_c (ck_c ev)
        have nk : (300 : Int32).toInt = 300 := by decide
        rw [show ((60 : Int32) * (5 : Int32)) = (300 : Int32) by decide]
        generalize hzz : (300 : Int32) + x2 = z
        have ez := i_addE hzz (by omega) (by omega)
        have hz : z.toInt = 60 * ((5 : Nat) : Int) + x2.toInt := by omega
        rw [ck_t (i_inb hx.1 (by omega)), u0, as_e u1 u2, eb, bs_1, bs_1, ck_t (ck_c ev), nm_eq, bs_1, ck_t (i_inb (by omega) (by omega)), nm_eq]
        unfold fX9_put_37
        rw [if_pos (rfl : (0 : Int32) = 0)]
        exact ⟨_, _, _, _, _, _, _, _, rfl, rfl, ⟨it_ln hz hb.1 (by omega) b2 (by decide) (by decide) t0, it_ln hz hb.1 (by omega) b2 (by decide) (by decide) t1, it_ln hz hb.1 (by omega) b2 (by decide) (by decide) t2, it_ln hz hb.1 (by omega) b2 (by decide) (by decide) t3, it_ln hz hb.1 (by omega) b2 (by decide) (by decide) t4, it_ls hz hb.1 (by omega) l5 b2 (by decide) t5⟩⟩
    · rw [if_neg h, if_neg h]
      unfold fX9_put_37
      rw [if_neg h]
      exact ⟨_, _, _, _, _, _, _, _, rfl, rfl, hr_1⟩
  clear e8
  obtain ⟨r, p0, p1, p2, p3, p4, p5, q, e8, e9, R⟩ := X
  have k8 := wp_get (st8_put g8_0 g8_1 g8_2 g8_3 g8_4 g8_5) e8
  have k9 := wp_get (st9_put g9_0) e9
  exact ⟨_, _, _, _, _, _, _, _, e8, e9, k8.1, k8.2.1, k8.2.2.1, k8.2.2.2.1, k8.2.2.2.2.1, k8.2.2.2.2.2, k9, hr_0, R⟩
set_option maxHeartbeats 4000000 in
theorem rs_element_it {x1 : Int32} {x2 : Int32} {v_shelves0_holds : Int32} {v_shelves0_size : Int32} {v_shelves0_items : List Int64} {v_shelves1_holds : Int32} {v_shelves1_size : Int32} {v_shelves1_items : List Int64} {v_shelves2_holds : Int32} {v_shelves2_size : Int32} {v_shelves2_items : List Int64} {v_shelves3_holds : Int32} {v_shelves3_size : Int32} {v_shelves3_items : List Int64} {v_shelves4_holds : Int32} {v_shelves4_size : Int32} {v_shelves4_items : List Int64} {v_shelves5_holds : Int32} {v_shelves5_size : Int32} {v_shelves5_items : List Int64} {v_foldings_size : Int32} {v_shelves0_body : Int32} {v_shelves0_sort : Int32} {v_shelves1_body : Int32} {v_shelves1_sort : Int32} {v_shelves2_body : Int32} {v_shelves2_sort : Int32} {v_shelves3_body : Int32} {v_shelves3_sort : Int32} {v_shelves4_body : Int32} {v_shelves4_sort : Int32} {v_shelves5_body : Int32} {v_shelves5_sort : Int32} {m_shelf : List Int32} {m_many : List Int32} {m_items : List Int64} {m_carried : List Int64} (g8_0 : gi_sf v_shelves0_size v_shelves0_items) (g8_1 : gi_sf v_shelves1_size v_shelves1_items) (g8_2 : gi_sf v_shelves2_size v_shelves2_items) (g8_3 : gi_sf v_shelves3_size v_shelves3_items) (g8_4 : gi_sf v_shelves4_size v_shelves4_items) (g8_5 : gi_sf v_shelves5_size v_shelves5_items) (g9_0 : gm_sf m_shelf m_many m_items m_carried) (hr_0 : rl_sc v_foldings_size v_shelves0_holds v_shelves0_body v_shelves0_sort v_shelves0_size v_shelves1_holds v_shelves1_body v_shelves1_sort v_shelves1_size v_shelves2_holds v_shelves2_body v_shelves2_sort v_shelves2_size v_shelves3_holds v_shelves3_body v_shelves3_sort v_shelves3_size v_shelves4_holds v_shelves4_body v_shelves4_sort v_shelves4_size v_shelves5_holds v_shelves5_body v_shelves5_sort v_shelves5_size m_shelf m_many) (hr_1 : rl_it v_shelves0_items v_shelves1_items v_shelves2_items v_shelves3_items v_shelves4_items v_shelves5_items m_items) : ∃ (r : Int64), fX8_element 700 x1 x2 v_shelves0_holds v_shelves0_size v_shelves0_items v_shelves1_holds v_shelves1_size v_shelves1_items v_shelves2_holds v_shelves2_size v_shelves2_items v_shelves3_holds v_shelves3_size v_shelves3_items v_shelves4_holds v_shelves4_size v_shelves4_items v_shelves5_holds v_shelves5_size v_shelves5_items = some r ∧ fX9_element 700 x1 x2 m_shelf m_many m_items = some r ∧ rl_sc v_foldings_size v_shelves0_holds v_shelves0_body v_shelves0_sort v_shelves0_size v_shelves1_holds v_shelves1_body v_shelves1_sort v_shelves1_size v_shelves2_holds v_shelves2_body v_shelves2_sort v_shelves2_size v_shelves3_holds v_shelves3_body v_shelves3_sort v_shelves3_size v_shelves4_holds v_shelves4_body v_shelves4_sort v_shelves4_size v_shelves5_holds v_shelves5_body v_shelves5_sort v_shelves5_size m_shelf m_many ∧ rl_it v_shelves0_items v_shelves1_items v_shelves2_items v_shelves3_items v_shelves4_items v_shelves5_items m_items := by
  obtain ⟨b0, b1, b2, b3, b4⟩ := id g9_0
  obtain ⟨a0, d0, l0⟩ := id g8_0
  obtain ⟨a1, d1, l1⟩ := id g8_1
  obtain ⟨a2, d2, l2⟩ := id g8_2
  obtain ⟨a3, d3, l3⟩ := id g8_3
  obtain ⟨a4, d4, l4⟩ := id g8_4
  obtain ⟨a5, d5, l5⟩ := id g8_5
  obtain ⟨c0, c1, c2, c3, c4, c5⟩ := id hr_0
  obtain ⟨t0, t1, t2, t3, t4, t5⟩ := id hr_1
  have tf : ¬ (true = false) := by decide
  obtain ⟨w, f8, f9, hw⟩ := rf_e (x1 := x1) (x2 := x2) b0 b1 a0 d0 a1 d1 a2 d2 a3 d3 a4 d4 a5 d5 hr_0
  obtain ⟨r8, e8, -⟩ := st8_element (x1 := x1) (x2 := x2) (v_shelves0_holds := v_shelves0_holds) (v_shelves1_holds := v_shelves1_holds) (v_shelves2_holds := v_shelves2_holds) (v_shelves3_holds := v_shelves3_holds) (v_shelves4_holds := v_shelves4_holds) (v_shelves5_holds := v_shelves5_holds) g8_0 g8_1 g8_2 g8_3 g8_4 g8_5
  have X : ∃ r : Int64, fX8_element 700 x1 x2 v_shelves0_holds v_shelves0_size v_shelves0_items v_shelves1_holds v_shelves1_size v_shelves1_items v_shelves2_holds v_shelves2_size v_shelves2_items v_shelves3_holds v_shelves3_size v_shelves3_items v_shelves4_holds v_shelves4_size v_shelves4_items v_shelves5_holds v_shelves5_size v_shelves5_items = some r ∧ fX9_element 700 x1 x2 m_shelf m_many m_items = some r := by
    have g8 := e8
    clear e8
    unfold fX8_element at g8
    rw [f8, bs_1] at g8
    unfold fX8_element fX9_element
    rw [f8, f9, bs_1, bs_1]
    by_cases h : w = 0
    · rw [if_pos h] at g8
      rw [if_pos h, if_pos h]
      subst h
      have hx := hw rfl
      rcases k6 hx.1 hx.2 with rfl | rfl | rfl | rfl | rfl | rfl
      · rw [if_pos (rfl : (0 : Int32) = 0)] at g8
        rw [if_pos (rfl : (0 : Int32) = 0)]
        have hb := inb_c (ck_c g8)
        have nk : (0 : Int32).toInt = 0 := by decide
        rw [show ((60 : Int32) * (0 : Int32)) = (0 : Int32) by decide]
        generalize hzz : (0 : Int32) + x2 = z
        have ez := i_addE hzz (by omega) (by omega)
        have hz : z.toInt = 60 * ((0 : Nat) : Int) + x2.toInt := by omega
        rw [ck_t (ck_c g8), ck_t (i_inb (by omega) (by omega))]
        refine ⟨_, rfl, ?_⟩
        have q := t0 x2.toInt.toNat (by omega)
        have e2 : z.toInt.toNat = 60 * 0 + x2.toInt.toNat := by omega
        rw [← e2] at q
        exact congrArg some q
      · rw [if_neg (show ¬ (1 : Int32) = 0 by decide), if_pos (rfl : (1 : Int32) = 1)] at g8
        rw [if_neg (show ¬ (1 : Int32) = 0 by decide), if_pos (rfl : (1 : Int32) = 1)]
        have hb := inb_c (ck_c g8)
        have nk : (60 : Int32).toInt = 60 := by decide
        rw [show ((60 : Int32) * (1 : Int32)) = (60 : Int32) by decide]
        generalize hzz : (60 : Int32) + x2 = z
        have ez := i_addE hzz (by omega) (by omega)
        have hz : z.toInt = 60 * ((1 : Nat) : Int) + x2.toInt := by omega
        rw [ck_t (ck_c g8), ck_t (i_inb (by omega) (by omega))]
        refine ⟨_, rfl, ?_⟩
        have q := t1 x2.toInt.toNat (by omega)
        have e2 : z.toInt.toNat = 60 * 1 + x2.toInt.toNat := by omega
        rw [← e2] at q
        exact congrArg some q
      · rw [if_neg (show ¬ (2 : Int32) = 0 by decide), if_neg (show ¬ (2 : Int32) = 1 by decide), if_pos (rfl : (2 : Int32) = 2)] at g8
        rw [if_neg (show ¬ (2 : Int32) = 0 by decide), if_neg (show ¬ (2 : Int32) = 1 by decide), if_pos (rfl : (2 : Int32) = 2)]
        have hb := inb_c (ck_c g8)
        have nk : (120 : Int32).toInt = 120 := by decide
        rw [show ((60 : Int32) * (2 : Int32)) = (120 : Int32) by decide]
        generalize hzz : (120 : Int32) + x2 = z
        have ez := i_addE hzz (by omega) (by omega)
        have hz : z.toInt = 60 * ((2 : Nat) : Int) + x2.toInt := by omega
        rw [ck_t (ck_c g8), ck_t (i_inb (by omega) (by omega))]
        refine ⟨_, rfl, ?_⟩
        have q := t2 x2.toInt.toNat (by omega)
        have e2 : z.toInt.toNat = 60 * 2 + x2.toInt.toNat := by omega
        rw [← e2] at q
        exact congrArg some q
      · rw [if_neg (show ¬ (3 : Int32) = 0 by decide), if_neg (show ¬ (3 : Int32) = 1 by decide), if_neg (show ¬ (3 : Int32) = 2 by decide), if_pos (rfl : (3 : Int32) = 3)] at g8
        rw [if_neg (show ¬ (3 : Int32) = 0 by decide), if_neg (show ¬ (3 : Int32) = 1 by decide), if_neg (show ¬ (3 : Int32) = 2 by decide), if_pos (rfl : (3 : Int32) = 3)]
        have hb := inb_c (ck_c g8)
        have nk : (180 : Int32).toInt = 180 := by decide
        rw [show ((60 : Int32) * (3 : Int32)) = (180 : Int32) by decide]
        generalize hzz : (180 : Int32) + x2 = z
        have ez := i_addE hzz (by omega) (by omega)
        have hz : z.toInt = 60 * ((3 : Nat) : Int) + x2.toInt := by omega
        rw [ck_t (ck_c g8), ck_t (i_inb (by omega) (by omega))]
        refine ⟨_, rfl, ?_⟩
        have q := t3 x2.toInt.toNat (by omega)
        have e2 : z.toInt.toNat = 60 * 3 + x2.toInt.toNat := by omega
        rw [← e2] at q
        exact congrArg some q
      · rw [if_neg (show ¬ (4 : Int32) = 0 by decide), if_neg (show ¬ (4 : Int32) = 1 by decide), if_neg (show ¬ (4 : Int32) = 2 by decide), if_neg (show ¬ (4 : Int32) = 3 by decide), if_pos (rfl : (4 : Int32) = 4)] at g8
        rw [if_neg (show ¬ (4 : Int32) = 0 by decide), if_neg (show ¬ (4 : Int32) = 1 by decide), if_neg (show ¬ (4 : Int32) = 2 by decide), if_neg (show ¬ (4 : Int32) = 3 by decide), if_pos (rfl : (4 : Int32) = 4)]
        have hb := inb_c (ck_c g8)
        have nk : (240 : Int32).toInt = 240 := by decide
        rw [show ((60 : Int32) * (4 : Int32)) = (240 : Int32) by decide]
        generalize hzz : (240 : Int32) + x2 = z
        have ez := i_addE hzz (by omega) (by omega)
        have hz : z.toInt = 60 * ((4 : Nat) : Int) + x2.toInt := by omega
        rw [ck_t (ck_c g8), ck_t (i_inb (by omega) (by omega))]
        refine ⟨_, rfl, ?_⟩
        have q := t4 x2.toInt.toNat (by omega)
        have e2 : z.toInt.toNat = 60 * 4 + x2.toInt.toNat := by omega
        rw [← e2] at q
        exact congrArg some q
      · rw [if_neg (show ¬ (5 : Int32) = 0 by decide), if_neg (show ¬ (5 : Int32) = 1 by decide), if_neg (show ¬ (5 : Int32) = 2 by decide), if_neg (show ¬ (5 : Int32) = 3 by decide), if_neg (show ¬ (5 : Int32) = 4 by decide), if_pos (rfl : (5 : Int32) = 5)] at g8
        rw [if_neg (show ¬ (5 : Int32) = 0 by decide), if_neg (show ¬ (5 : Int32) = 1 by decide), if_neg (show ¬ (5 : Int32) = 2 by decide), if_neg (show ¬ (5 : Int32) = 3 by decide), if_neg (show ¬ (5 : Int32) = 4 by decide), if_pos (rfl : (5 : Int32) = 5)]
        have hb := inb_c (ck_c g8)
        have nk : (300 : Int32).toInt = 300 := by decide
        rw [show ((60 : Int32) * (5 : Int32)) = (300 : Int32) by decide]
        generalize hzz : (300 : Int32) + x2 = z
        have ez := i_addE hzz (by omega) (by omega)
        have hz : z.toInt = 60 * ((5 : Nat) : Int) + x2.toInt := by omega
        rw [ck_t (ck_c g8), ck_t (i_inb (by omega) (by omega))]
        refine ⟨_, rfl, ?_⟩
        have q := t5 x2.toInt.toNat (by omega)
        have e2 : z.toInt.toNat = 60 * 5 + x2.toInt.toNat := by omega
        rw [← e2] at q
        exact congrArg some q
    · rw [if_neg h, if_neg h]
      exact ⟨_, rfl, rfl⟩
  obtain ⟨r, f8', f9'⟩ := X
  exact ⟨_, f8', f9', hr_0, hr_1⟩
end
section
/-! plan -/
def rl_pl (v_planned_size : Int32) (v_planned_lines : List Int32) (v_planned_ways : List Int32) (m_planned : Int32) (m_planLine : List Int32) (m_planWay : List Int32) : Prop := m_planned = v_planned_size ∧ m_planLine = v_planned_lines ∧ m_planWay = v_planned_ways
theorem wn_e (a l h : Int64) : fX9_within 700 a l h = some (decide (l.toInt ≤ a.toInt ∧ a.toInt ≤ h.toInt)) := by
  obtain ⟨w, ew, qw⟩ := sf_X9_within (Nat.le_refl 700) (x0 := a) (x2 := l) (x4 := h)
  rw [ew]
  rcases qw with ⟨rfl, q0, q1⟩ | ⟨rfl, q0⟩
  · rw [decide_eq_true ⟨q0, q1⟩]
  · rw [decide_eq_false (by omega)]
theorem pf_e (a b : Int64) : fX8_isPlannedFold 700 a b = some (decide ((1 ≤ a.toInt ∧ a.toInt ≤ 7) ∧ (0 ≤ b.toInt ∧ b.toInt ≤ 7))) := by
  have m0 : (0 : Int64).toInt = 0 := by decide
  have m1 : (1 : Int64).toInt = 1 := by decide
  have m7 : (7 : Int64).toInt = 7 := by decide
  have m8 : (8 : Int64).toInt = 8 := by decide
  unfold fX8_isPlannedFold
  by_cases c1 : lg_cmp a (1 : Int64) < 0
  · have d := (lg_neg _ _).mp c1
    rw [if_pos c1, decide_eq_false (by omega)]
  · have d1 : ¬ a.toInt < (1 : Int64).toInt := fun k => c1 ((lg_neg _ _).mpr k)
    rw [if_neg c1]
    by_cases c2 : 0 < lg_cmp a (7 : Int64)
    · have d := (lg_pos _ _).mp c2
      rw [if_pos c2, decide_eq_false (by omega)]
    · have d2 : ¬ (7 : Int64).toInt < a.toInt := fun k => c2 ((lg_pos _ _).mpr k)
      rw [if_neg c2]
      by_cases c3 : lg_cmp b (0 : Int64) < 0
      · have d := (lg_neg _ _).mp c3
        rw [if_pos c3, decide_eq_false (by omega)]
      · have d3 : ¬ b.toInt < (0 : Int64).toInt := fun k => c3 ((lg_neg _ _).mpr k)
        rw [if_neg c3]
        by_cases c4 : 0 ≤ lg_cmp b (8 : Int64)
        · have d4 : ¬ b.toInt < (8 : Int64).toInt := fun k => absurd (i_lt ((lg_neg _ _).mpr k)) (Int.not_lt.mpr (i_le c4))
          rw [if_pos c4, decide_eq_false (by omega)]
        · have d4 := (lg_neg _ _).mp (Int32.lt_iff_toInt_lt.mpr (i_nle c4))
          rw [if_neg c4, decide_eq_true (by omega)]
theorem ap_t {x y s : Int32} {ls ws : List Int32} (h0 : 0 ≤ s.toInt) (h1 : s.toInt < 12) (hl : ls.length = 12) (hw : ws.length = 12) : fX3_append 700 x y s ls ws = some (true, s + (1 : Int32), mm_is ls s x, mm_is ws s y) := by
  have n12 : (12 : Int32).toInt = 12 := by decide
  unfold fX3_append
  rw [if_pos (show s < (12 : Int32) by rw [Int32.lt_iff_toInt_lt]; omega), ck_t (i_inb h0 (by omega)), nm_eq, ck_t (i_inb h0 (by omega)), nm_eq, nm_eq]
theorem ap_f {x y s : Int32} {ls ws : List Int32} (h1 : 12 ≤ s.toInt) : fX3_append 700 x y s ls ws = some (false, s, ls, ws) := by
  have n12 : (12 : Int32).toInt = 12 := by decide
  unfold fX3_append
  rw [if_neg (show ¬ s < (12 : Int32) by rw [Int32.lt_iff_toInt_lt]; omega)]
theorem rs_plan {x1 : Int32} {x2 : Int32} {v_planned_size : Int32} {v_planned_lines : List Int32} {v_planned_ways : List Int32} {m_planned : Int32} {m_planLine : List Int32} {m_planWay : List Int32} (g8_0 : gi_pl v_planned_size v_planned_lines v_planned_ways) (g9_0 : gm_pl m_planned m_planLine m_planWay) (hr_0 : rl_pl v_planned_size v_planned_lines v_planned_ways m_planned m_planLine m_planWay) : ∃ (r : Int32) (p_planned_size : Int32) (p_planned_lines : List Int32) (p_planned_ways : List Int32) (q_planned : Int32) (q_planLine : List Int32) (q_planWay : List Int32), fX8_plan 700 x1 x2 v_planned_size v_planned_lines v_planned_ways = some (r, p_planned_size, p_planned_lines, p_planned_ways) ∧ fX9_plan 700 x1 x2 m_planned m_planLine m_planWay = some (r, q_planned, q_planLine, q_planWay) ∧ gi_pl p_planned_size p_planned_lines p_planned_ways ∧ gm_pl q_planned q_planLine q_planWay ∧ rl_pl p_planned_size p_planned_lines p_planned_ways q_planned q_planLine q_planWay := by
  obtain ⟨rfl, rfl, rfl⟩ := hr_0
  obtain ⟨a0, a1, a2, a3⟩ := id g8_0
  have tf : ¬ (true = false) := by decide
  have m0 : (0 : Int64).toInt = 0 := by decide
  have m1 : (1 : Int64).toInt = 1 := by decide
  have m7 : (7 : Int64).toInt = 7 := by decide
  have n12 : (12 : Int32).toInt = 12 := by decide
  have e1 := i_64 x1
  have e2 := i_64 x2
  have X : ∃ (r s : Int32) (l w : List Int32), fX8_plan 700 x1 x2 m_planned m_planLine m_planWay = some (r, s, l, w) ∧ fX9_plan 700 x1 x2 m_planned m_planLine m_planWay = some (r, s, l, w) := by
    unfold fX8_plan fX9_plan
    by_cases z : x1 = 0
    · rw [if_pos z, if_pos z]
      exact ⟨_, _, _, _, rfl, rfl⟩
    · rw [if_neg z, if_neg z, pf_e, wn_e, wn_e, bs_1, bs_1, e1, e2, m0, m1, m7]
      by_cases c1 : 1 ≤ x1.toInt ∧ x1.toInt ≤ 7
      · rw [decide_eq_true c1, if_neg tf, bs_1]
        by_cases c2 : 0 ≤ x2.toInt ∧ x2.toInt ≤ 7
        · rw [decide_eq_true c2, if_neg tf, decide_eq_true (show (1 ≤ x1.toInt ∧ x1.toInt ≤ 7) ∧ (0 ≤ x2.toInt ∧ x2.toInt ≤ 7) from ⟨c1, c2⟩), if_neg tf]
          by_cases f : m_planned = (12 : Int32)
          · rw [if_pos f, ap_f (by rw [f]; decide), bs_4, if_pos (rfl : false = false)]
            exact ⟨_, _, _, _, rfl, rfl⟩
          · have f' : m_planned.toInt < 12 := by
              by_cases q : m_planned.toInt < 12
              · exact q
              · exact absurd (Int32.toInt_inj.mp (show m_planned.toInt = (12 : Int32).toInt by omega)) f
            rw [if_neg f, ap_t a0 f' a2 a3, bs_4, if_neg tf, ck_t (i_inb a0 (by omega)), nm_eq, ck_t (i_inb a0 (by omega)), nm_eq, nm_eq]
            exact ⟨_, _, _, _, rfl, rfl⟩
        · rw [decide_eq_false c2, if_pos (rfl : false = false), decide_eq_false (show ¬ ((1 ≤ x1.toInt ∧ x1.toInt ≤ 7) ∧ (0 ≤ x2.toInt ∧ x2.toInt ≤ 7)) from fun h => c2 h.2), if_pos (rfl : false = false)]
          exact ⟨_, _, _, _, rfl, rfl⟩
      · rw [decide_eq_false c1, if_pos (rfl : false = false), decide_eq_false (show ¬ ((1 ≤ x1.toInt ∧ x1.toInt ≤ 7) ∧ (0 ≤ x2.toInt ∧ x2.toInt ≤ 7)) from fun h => c1 h.1), if_pos (rfl : false = false)]
        exact ⟨_, _, _, _, rfl, rfl⟩
  obtain ⟨r, s, l, w, e8, e9⟩ := X
  have k8 := wp_get (st8_plan g8_0) e8
  have k9 := wp_get (st9_plan g9_0) e9
  exact ⟨_, _, _, _, _, _, _, e8, e9, k8, k9, ⟨rfl, rfl, rfl⟩⟩
end
section
/-! plans -/
theorem p69_0 {n : Nat} {x1 x2 x3 x4 s : Int32} {ls ws sh mn : List Int32} {m : List Int64} (hn : 0 < n) : fX9_plans_69 700 n x1 x2 x3 x4 (0 : Int32) s ls ws sh mn m = some (x4, s, ls, ws) := by
  cases n with
  | zero => exact absurd hn (by omega)
  | succ n => rw [uf_X9_plans_69, if_pos (rfl : (0 : Int32) = 0)]
theorem p110_0 {n : Nat} {x1 x2 x3 x4 s : Int32} {ls ws sh mn : List Int32} {m : List Int64} (hn : 0 < n) : fX9_plans_110 700 (fX9_plans_69 700 n) x1 x2 x3 x4 s ls ws sh mn m = some (x4, s, ls, ws) := by
  unfold fX9_plans_110 fX9_plans_111
  rw [nm_eq, if_pos (rfl : (0 : Int32) = 0)]
  unfold fX9_plans_171 fX9_plans_172
  rw [if_pos (rfl : (0 : Int32) = 0)]
  unfold fX9_plans_228
  exact p69_0 hn
theorem p171_0 {n : Nat} {x1 x2 x3 x4 x6 s : Int32} {ls ws sh mn : List Int32} {m : List Int64} (hn : 0 < n) : fX9_plans_171 700 (fX9_plans_69 700 n) x1 x2 x3 x4 x6 s ls ws sh mn m = some (x4, s, ls, ws) := by
  unfold fX9_plans_171 fX9_plans_172
  rw [if_pos (rfl : (0 : Int32) = 0)]
  unfold fX9_plans_228
  exact p69_0 hn
theorem it_lg {k : Nat} {it m : List Int64} {i z : Int32} (c : it1 k it m) (h0 : 0 ≤ i.toInt) (h1 : i.toInt < 60) (hz : z.toInt = 60 * (k : Int) + i.toInt) : mm_lg m z = mm_lg it i := by
  have q := c i.toInt.toNat (by omega)
  have e2 : z.toInt.toNat = 60 * k + i.toInt.toNat := by omega
  rw [← e2] at q
  exact q
theorem pl_loop {k : Nat} {x1 x2 x3 z : Int32} {sh mn : List Int32} {it m : List Int64} (hk : k < 6) (h1 : x1.toInt = (k : Int)) (h2 : 0 ≤ x2.toInt) (h3 : x3.toInt ≤ 12) (z0 : 0 ≤ z.toInt) (z1 : z.toInt ≤ 60) (hit : it.length = 60) (hm : m.length = 360) (hn : mn.length = 6) (hz : mm_ig mn x1 = z) (c : it1 k it m) : ∀ (n : Nat) (x4 s : Int32) (ls ws : List Int32), 0 ≤ x4.toInt → x4.toInt ≤ x3.toInt → 0 ≤ s.toInt → s.toInt ≤ 12 → ls.length = 12 → ws.length = 12 → (x3.toInt - x4.toInt).toNat + 1 < n → ∃ (r s' : Int32) (l w : List Int32), fX3_appendFrom_6 700 n x2 x3 x4 x4 s ls ws z it = some (r, s', l, w) ∧ fX9_plans_69 700 n x1 x2 x3 x4 (1 : Int32) s ls ws sh mn m = some (r, s', l, w) := by
  have tf : ¬ (true = false) := by decide
  have n1 : (1 : Int32).toInt = 1 := by decide
  have n2 : (2 : Int32).toInt = 2 := by decide
  have n12 : (12 : Int32).toInt = 12 := by decide
  have m0 : (0 : Int64).toInt = 0 := by decide
  have m1 : (1 : Int64).toInt = 1 := by decide
  have m7 : (7 : Int64).toInt = 7 := by decide
  intro n
  induction n with
  | zero =>
    intro x4 s ls ws g0 g1 g2 g3 g4 g5 hf
    exact absurd hf (by omega)
  | succ n ih =>
    intro x4 s ls ws g0 g1 g2 g3 g4 g5 hf
    rw [uf_X3_appendFrom_6, uf_X9_plans_69, if_neg (show ¬ (1 : Int32) = 0 by decide)]
    by_cases c3 : x3 ≤ x4
    · rw [if_pos c3, if_pos c3]
      exact ⟨_, _, _, _, rfl, rfl⟩
    · have d3 := i_nle c3
      rw [if_neg c3, if_neg c3, nm_eq, ck_t (i_inb (show 0 ≤ x1.toInt by omega) (by omega)), hz]
      generalize hy : x2.toInt64 + (2 : Int64) * x4.toInt64 = y
      have ey : y.toInt = x2.toInt + 2 * x4.toInt := by rw [← hy]; exact j_at h2 g0 (by omega)
      have lx := Int32.toInt_lt x2
      have ey1 := j_p1 (y := y) (by omega) (by omega)
      have es := i_64 z
      generalize hA : z - (2 : Int32) = A
      have eA := i_subE hA (by omega) (by omega)
      generalize hB : (2 : Int32) * x4 = B
      have eB := i_mulLE n2 hB (by omega) (by omega)
      generalize hC : A - B = C
      have eC := i_subE hC (by omega) (by omega)
      by_cases d : lg_cmp (y + (1 : Int64)) z.toInt64 < 0
      · have d' := (lg_neg _ _).mp d
        rw [if_pos d, if_neg (show ¬ C < x2 by rw [Int32.lt_iff_toInt_lt]; omega)]
        have e32 := j_32 (y := y) (by omega) (by omega)
        generalize hi : y.toInt32 = i
        rw [hi] at e32
        generalize hj : i + (1 : Int32) = j
        have ej := i_addE hj (by omega) (by omega)
        rw [ck_t (i_inb (show 0 ≤ i.toInt by omega) (by omega)), nm_eq, ck_t (i_inb (show 0 ≤ j.toInt by omega) (by omega)), nm_eq, pf_e, bs_1]
        by_cases full : (12 : Int32) ≤ s
        · have full' := i_le full
          rw [if_pos full, p110_0 (by omega), ap_f (by omega), bs_4, if_pos (rfl : false = false), ite_self]
          exact ⟨_, _, _, _, rfl, rfl⟩
        · have full' := i_nle full
          rw [if_neg full]
          unfold fX9_plans_111
          generalize hD : (60 : Int32) * x1 = D
          have eD := i_mulLE (c := 60) (by decide) hD (by omega) (by omega)
          generalize hE : D + x2 = E
          have eE := i_addE hE (by omega) (by omega)
          rw [hB]
          generalize hF : E + B = F
          have eF := i_addE hF (by omega) (by omega)
          rw [nm_eq, if_neg (show ¬ (1 : Int32) = 0 by decide), ck_t (i_inb (show 0 ≤ F.toInt by omega) (by omega)), it_lg c (i := i) (z := F) (by omega) (by omega) (by omega), wn_e, bs_1]
          generalize hG : F + (1 : Int32) = G
          have eG := i_addE hG (by omega) (by omega)
          generalize ha : mm_lg it i = a
          rw [m1, m7]
          by_cases c1 : 1 ≤ a.toInt ∧ a.toInt ≤ 7
          · rw [decide_eq_true c1, if_neg tf, ck_t (i_inb (show 0 ≤ G.toInt by omega) (by omega)), it_lg c (i := j) (z := G) (by omega) (by omega) (by omega), wn_e, bs_1]
            generalize hb : mm_lg it j = b
            rw [m0, m7]
            by_cases c2 : 0 ≤ b.toInt ∧ b.toInt ≤ 7
            · rw [decide_eq_true c2, if_neg tf, decide_eq_true (show (1 ≤ a.toInt ∧ a.toInt ≤ 7) ∧ (0 ≤ b.toInt ∧ b.toInt ≤ 7) from ⟨c1, c2⟩), if_neg tf, ap_t g2 (by omega) g4 g5, bs_4, if_neg tf, nm_eq, nm_eq]
              unfold fX9_plans_172
              rw [if_neg (show ¬ (1 : Int32) = 0 by decide), hG, ck_t (i_inb (show 0 ≤ F.toInt by omega) (by omega)), it_lg c (i := i) (z := F) (by omega) (by omega) (by omega), ha, nm_eq, ck_t (i_inb (show 0 ≤ s.toInt by omega) (by omega)), nm_eq, ck_t (i_inb (show 0 ≤ G.toInt by omega) (by omega)), it_lg c (i := j) (z := G) (by omega) (by omega) (by omega), hb, nm_eq, ck_t (i_inb (show 0 ≤ s.toInt by omega) (by omega)), nm_eq, nm_eq, nm_eq]
              unfold fX9_plans_228
              generalize hs' : s + (1 : Int32) = s'
              have es' := i_addE hs' (by omega) (by omega)
              generalize hx' : x4 + (1 : Int32) = x4'
              have ex' := i_addE hx' (by omega) (by omega)
              exact ih x4' s' _ _ (by omega) (by omega) (by omega) (by omega) (by rw [is_len]; exact g4) (by rw [is_len]; exact g5) (by omega)
            · rw [decide_eq_false c2, if_pos (rfl : false = false), p171_0 (by omega), decide_eq_false (show ¬ ((1 ≤ a.toInt ∧ a.toInt ≤ 7) ∧ (0 ≤ b.toInt ∧ b.toInt ≤ 7)) from fun h => c2 h.2), if_pos (rfl : false = false)]
              exact ⟨_, _, _, _, rfl, rfl⟩
          · rw [decide_eq_false c1, if_pos (rfl : false = false), p171_0 (by omega), decide_eq_false (show ¬ ((1 ≤ a.toInt ∧ a.toInt ≤ 7) ∧ (0 ≤ (mm_lg it j).toInt ∧ (mm_lg it j).toInt ≤ 7)) from fun h => c1 h.1), if_pos (rfl : false = false)]
            exact ⟨_, _, _, _, rfl, rfl⟩
      · have d' : ¬ (y + (1 : Int64)).toInt < z.toInt64.toInt := fun q => d ((lg_neg _ _).mpr q)
        rw [if_neg d, if_pos (show C < x2 by rw [Int32.lt_iff_toInt_lt]; omega), p110_0 (by omega)]
        exact ⟨_, _, _, _, rfl, rfl⟩
set_option maxHeartbeats 4000000 in
theorem rs_plans {x1 : Int32} {x2 : Int32} {x3 : Int32} {v_planned_size : Int32} {v_planned_lines : List Int32} {v_planned_ways : List Int32} {v_shelves0_holds : Int32} {v_shelves0_sort : Int32} {v_shelves0_size : Int32} {v_shelves0_items : List Int64} {v_shelves1_holds : Int32} {v_shelves1_sort : Int32} {v_shelves1_size : Int32} {v_shelves1_items : List Int64} {v_shelves2_holds : Int32} {v_shelves2_sort : Int32} {v_shelves2_size : Int32} {v_shelves2_items : List Int64} {v_shelves3_holds : Int32} {v_shelves3_sort : Int32} {v_shelves3_size : Int32} {v_shelves3_items : List Int64} {v_shelves4_holds : Int32} {v_shelves4_sort : Int32} {v_shelves4_size : Int32} {v_shelves4_items : List Int64} {v_shelves5_holds : Int32} {v_shelves5_sort : Int32} {v_shelves5_size : Int32} {v_shelves5_items : List Int64} {v_foldings_size : Int32} {v_shelves0_body : Int32} {v_shelves1_body : Int32} {v_shelves2_body : Int32} {v_shelves3_body : Int32} {v_shelves4_body : Int32} {v_shelves5_body : Int32} {m_planned : Int32} {m_planLine : List Int32} {m_planWay : List Int32} {m_shelf : List Int32} {m_many : List Int32} {m_items : List Int64} {m_carried : List Int64} (g8_0 : gi_pl v_planned_size v_planned_lines v_planned_ways) (g8_1 : gi_sf v_shelves0_size v_shelves0_items) (g8_2 : gi_sf v_shelves1_size v_shelves1_items) (g8_3 : gi_sf v_shelves2_size v_shelves2_items) (g8_4 : gi_sf v_shelves3_size v_shelves3_items) (g8_5 : gi_sf v_shelves4_size v_shelves4_items) (g8_6 : gi_sf v_shelves5_size v_shelves5_items) (g9_0 : gm_pl m_planned m_planLine m_planWay) (g9_1 : gm_sf m_shelf m_many m_items m_carried) (hr_0 : rl_sc v_foldings_size v_shelves0_holds v_shelves0_body v_shelves0_sort v_shelves0_size v_shelves1_holds v_shelves1_body v_shelves1_sort v_shelves1_size v_shelves2_holds v_shelves2_body v_shelves2_sort v_shelves2_size v_shelves3_holds v_shelves3_body v_shelves3_sort v_shelves3_size v_shelves4_holds v_shelves4_body v_shelves4_sort v_shelves4_size v_shelves5_holds v_shelves5_body v_shelves5_sort v_shelves5_size m_shelf m_many) (hr_1 : rl_it v_shelves0_items v_shelves1_items v_shelves2_items v_shelves3_items v_shelves4_items v_shelves5_items m_items) (hr_2 : rl_pl v_planned_size v_planned_lines v_planned_ways m_planned m_planLine m_planWay) : ∃ (r : Int32) (p_planned_size : Int32) (p_planned_lines : List Int32) (p_planned_ways : List Int32) (q_planned : Int32) (q_planLine : List Int32) (q_planWay : List Int32), fX8_plans 700 x1 x2 x3 v_planned_size v_planned_lines v_planned_ways v_shelves0_holds v_shelves0_sort v_shelves0_size v_shelves0_items v_shelves1_holds v_shelves1_sort v_shelves1_size v_shelves1_items v_shelves2_holds v_shelves2_sort v_shelves2_size v_shelves2_items v_shelves3_holds v_shelves3_sort v_shelves3_size v_shelves3_items v_shelves4_holds v_shelves4_sort v_shelves4_size v_shelves4_items v_shelves5_holds v_shelves5_sort v_shelves5_size v_shelves5_items = some (r, p_planned_size, p_planned_lines, p_planned_ways) ∧ fX9_plans 700 x1 x2 x3 m_planned m_planLine m_planWay m_shelf m_many m_items = some (r, q_planned, q_planLine, q_planWay) ∧ gi_pl p_planned_size p_planned_lines p_planned_ways ∧ gm_pl q_planned q_planLine q_planWay ∧ rl_sc v_foldings_size v_shelves0_holds v_shelves0_body v_shelves0_sort v_shelves0_size v_shelves1_holds v_shelves1_body v_shelves1_sort v_shelves1_size v_shelves2_holds v_shelves2_body v_shelves2_sort v_shelves2_size v_shelves3_holds v_shelves3_body v_shelves3_sort v_shelves3_size v_shelves4_holds v_shelves4_body v_shelves4_sort v_shelves4_size v_shelves5_holds v_shelves5_body v_shelves5_sort v_shelves5_size m_shelf m_many ∧ rl_it v_shelves0_items v_shelves1_items v_shelves2_items v_shelves3_items v_shelves4_items v_shelves5_items m_items ∧ rl_pl p_planned_size p_planned_lines p_planned_ways q_planned q_planLine q_planWay := by
  obtain ⟨rfl, rfl, rfl⟩ := id hr_2
  obtain ⟨o0, o1, o2, o3⟩ := id g8_0
  obtain ⟨a0, d0, l0⟩ := id g8_1
  obtain ⟨a1, d1, l1⟩ := id g8_2
  obtain ⟨a2, d2, l2⟩ := id g8_3
  obtain ⟨a3, d3, l3⟩ := id g8_4
  obtain ⟨a4, d4, l4⟩ := id g8_5
  obtain ⟨a5, d5, l5⟩ := id g8_6
  obtain ⟨b0, b1, b2, b3, b4⟩ := id g9_1
  obtain ⟨c0, c1, c2, c3, c4, c5⟩ := id hr_0
  obtain ⟨t0, t1, t2, t3, t4, t5⟩ := id hr_1
  have tf : ¬ (true = false) := by decide
  have n0 : (0 : Int32).toInt = 0 := by decide
  have n1 : (1 : Int32).toInt = 1 := by decide
  have n12 : (12 : Int32).toInt = 12 := by decide
  have n50 : (50 : Int32).toInt = 50 := by decide
  have m1 : (1 : Int64).toInt = 1 := by decide
  have m12 : (12 : Int64).toInt = 12 := by decide
  have e3 := i_64 x3
  have X : ∃ (r s : Int32) (l w : List Int32), fX8_plans 700 x1 x2 x3 m_planned m_planLine m_planWay v_shelves0_holds v_shelves0_sort v_shelves0_size v_shelves0_items v_shelves1_holds v_shelves1_sort v_shelves1_size v_shelves1_items v_shelves2_holds v_shelves2_sort v_shelves2_size v_shelves2_items v_shelves3_holds v_shelves3_sort v_shelves3_size v_shelves3_items v_shelves4_holds v_shelves4_sort v_shelves4_size v_shelves4_items v_shelves5_holds v_shelves5_sort v_shelves5_size v_shelves5_items = some (r, s, l, w) ∧ fX9_plans 700 x1 x2 x3 m_planned m_planLine m_planWay m_shelf m_many m_items = some (r, s, l, w) := by
    unfold fX8_plans fX9_plans
    rw [sh8_e, sh9_e, bs_1, bs_1, wn_e, e3, m1, m12, bs_1]
    by_cases hx : 0 ≤ x1.toInt ∧ x1.toInt ≤ 5
    · rw [decide_eq_true hx, if_neg tf, if_neg tf]
      by_cases h3 : 1 ≤ x3.toInt ∧ x3.toInt ≤ 12
      · rw [decide_eq_true h3, if_neg tf, if_neg (show ¬ x3 < (1 : Int32) by rw [Int32.lt_iff_toInt_lt]; omega), if_pos (show x3 ≤ (12 : Int32) by rw [Int32.le_iff_toInt_le]; omega), ck_t (i_inb hx.1 (by omega))]
        unfold fX9_plans_44 fX9_plans_66 fX9_plans_67
        rcases k6 hx.1 hx.2 with rfl | rfl | rfl | rfl | rfl | rfl
        · rw [if_pos (rfl : (0 : Int32) = 0)]
          rcases c0 with ⟨h1, h2⟩ | ⟨h1, h2, q3, q4, q5⟩ | ⟨h1, h2, q3, q4, q5⟩
          · rw [h1, h2, if_pos (rfl : (0 : Int32) = 0), if_pos (show (-1 : Int32) < 0 by decide), ck_t (i_inb hx.1 (by omega)), if_neg (show ¬ (-1 : Int32) = 50 by decide), p69_0 (by decide)]
            exact ⟨_, _, _, _, rfl, rfl⟩
          · rw [h1, h2, if_neg (show ¬ (1 : Int32) = 0 by decide), if_neg (show ¬ (1 : Int32) = 2 by decide), if_neg (show ¬ v_shelves0_body < 0 by rw [Int32.lt_iff_toInt_lt]; omega), ck_t (i_inb hx.1 (by omega)), if_neg (show ¬ v_shelves0_body = (50 : Int32) by intro q; rw [q] at q5; omega)]
            exact ⟨_, _, _, _, rfl, rfl⟩
          · have e : ((50 : Int32) + v_shelves0_sort).toInt = 50 + v_shelves0_sort.toInt := by rw [i_addE rfl (by omega) (by omega), n50]
            rw [h1, h2, if_neg (show ¬ (2 : Int32) = 0 by decide), if_pos (rfl : (2 : Int32) = 2), if_neg (show ¬ (50 : Int32) + v_shelves0_sort < 0 by rw [Int32.lt_iff_toInt_lt]; omega), ck_t (i_inb hx.1 (by omega))]
            by_cases hs : v_shelves0_sort = 0
            · rw [if_pos hs, hs, if_pos (show (50 : Int32) + 0 = 50 by decide), ck_t (i_inb hx.1 (by omega)), if_pos (show (50 : Int32) + 0 = 50 by decide)]
              by_cases h : x2 < 0
              · have h' := i_lt h
                rw [if_pos h, if_neg (show ¬ 0 ≤ x2 by rw [Int32.le_iff_toInt_le]; omega), p69_0 (by decide)]
                exact ⟨_, _, _, _, rfl, rfl⟩
              · have h' := i_nlt h
                obtain ⟨r, s', l, w, f8, f9⟩ := pl_loop (sh := m_shelf) (by decide) (show (0 : Int32).toInt = ((0 : Nat) : Int) by decide) (show 0 ≤ x2.toInt by omega) h3.2 a0 d0 l0 b2 b1 q5 t0 700 (0 : Int32) m_planned m_planLine m_planWay (by decide) (by omega) o0 o1 o2 o3 (by omega)
                rw [if_neg h, if_pos (show 0 ≤ x2 by rw [Int32.le_iff_toInt_le]; omega), f9]
                unfold fX3_appendFrom
                rw [f8, bs_4]
                exact ⟨_, _, _, _, rfl, rfl⟩
            · rw [if_neg hs, if_neg (show ¬ (50 : Int32) + v_shelves0_sort = 50 by intro q; rw [q, n50] at e; exact hs (Int32.toInt_inj.mp (by omega)))]
              exact ⟨_, _, _, _, rfl, rfl⟩
        · rw [if_neg (show ¬ (1 : Int32) = 0 by decide), if_pos (rfl : (1 : Int32) = 1)]
          rcases c1 with ⟨h1, h2⟩ | ⟨h1, h2, q3, q4, q5⟩ | ⟨h1, h2, q3, q4, q5⟩
          · rw [h1, h2, if_pos (rfl : (0 : Int32) = 0), if_pos (show (-1 : Int32) < 0 by decide), ck_t (i_inb hx.1 (by omega)), if_neg (show ¬ (-1 : Int32) = 50 by decide), p69_0 (by decide)]
            exact ⟨_, _, _, _, rfl, rfl⟩
          · rw [h1, h2, if_neg (show ¬ (1 : Int32) = 0 by decide), if_neg (show ¬ (1 : Int32) = 2 by decide), if_neg (show ¬ v_shelves1_body < 0 by rw [Int32.lt_iff_toInt_lt]; omega), ck_t (i_inb hx.1 (by omega)), if_neg (show ¬ v_shelves1_body = (50 : Int32) by intro q; rw [q] at q5; omega)]
            exact ⟨_, _, _, _, rfl, rfl⟩
          · have e : ((50 : Int32) + v_shelves1_sort).toInt = 50 + v_shelves1_sort.toInt := by rw [i_addE rfl (by omega) (by omega), n50]
            rw [h1, h2, if_neg (show ¬ (2 : Int32) = 0 by decide), if_pos (rfl : (2 : Int32) = 2), if_neg (show ¬ (50 : Int32) + v_shelves1_sort < 0 by rw [Int32.lt_iff_toInt_lt]; omega), ck_t (i_inb hx.1 (by omega))]
            by_cases hs : v_shelves1_sort = 0
            · rw [if_pos hs, hs, if_pos (show (50 : Int32) + 0 = 50 by decide), ck_t (i_inb hx.1 (by omega)), if_pos (show (50 : Int32) + 0 = 50 by decide)]
              by_cases h : x2 < 0
              · have h' := i_lt h
                rw [if_pos h, if_neg (show ¬ 0 ≤ x2 by rw [Int32.le_iff_toInt_le]; omega), p69_0 (by decide)]
                exact ⟨_, _, _, _, rfl, rfl⟩
              · have h' := i_nlt h
                obtain ⟨r, s', l, w, f8, f9⟩ := pl_loop (sh := m_shelf) (by decide) (show (1 : Int32).toInt = ((1 : Nat) : Int) by decide) (show 0 ≤ x2.toInt by omega) h3.2 a1 d1 l1 b2 b1 q5 t1 700 (0 : Int32) m_planned m_planLine m_planWay (by decide) (by omega) o0 o1 o2 o3 (by omega)
                rw [if_neg h, if_pos (show 0 ≤ x2 by rw [Int32.le_iff_toInt_le]; omega), f9]
                unfold fX3_appendFrom
                rw [f8, bs_4]
                exact ⟨_, _, _, _, rfl, rfl⟩
            · rw [if_neg hs, if_neg (show ¬ (50 : Int32) + v_shelves1_sort = 50 by intro q; rw [q, n50] at e; exact hs (Int32.toInt_inj.mp (by omega)))]
              exact ⟨_, _, _, _, rfl, rfl⟩
        · rw [if_neg (show ¬ (2 : Int32) = 0 by decide), if_neg (show ¬ (2 : Int32) = 1 by decide), if_pos (rfl : (2 : Int32) = 2)]
          rcases c2 with ⟨h1, h2⟩ | ⟨h1, h2, q3, q4, q5⟩ | ⟨h1, h2, q3, q4, q5⟩
          · rw [h1, h2, if_pos (rfl : (0 : Int32) = 0), if_pos (show (-1 : Int32) < 0 by decide), ck_t (i_inb hx.1 (by omega)), if_neg (show ¬ (-1 : Int32) = 50 by decide), p69_0 (by decide)]
            exact ⟨_, _, _, _, rfl, rfl⟩
          · rw [h1, h2, if_neg (show ¬ (1 : Int32) = 0 by decide), if_neg (show ¬ (1 : Int32) = 2 by decide), if_neg (show ¬ v_shelves2_body < 0 by rw [Int32.lt_iff_toInt_lt]; omega), ck_t (i_inb hx.1 (by omega)), if_neg (show ¬ v_shelves2_body = (50 : Int32) by intro q; rw [q] at q5; omega)]
            exact ⟨_, _, _, _, rfl, rfl⟩
          · have e : ((50 : Int32) + v_shelves2_sort).toInt = 50 + v_shelves2_sort.toInt := by rw [i_addE rfl (by omega) (by omega), n50]
            rw [h1, h2, if_neg (show ¬ (2 : Int32) = 0 by decide), if_pos (rfl : (2 : Int32) = 2), if_neg (show ¬ (50 : Int32) + v_shelves2_sort < 0 by rw [Int32.lt_iff_toInt_lt]; omega), ck_t (i_inb hx.1 (by omega))]
            by_cases hs : v_shelves2_sort = 0
            · rw [if_pos hs, hs, if_pos (show (50 : Int32) + 0 = 50 by decide), ck_t (i_inb hx.1 (by omega)), if_pos (show (50 : Int32) + 0 = 50 by decide)]
              by_cases h : x2 < 0
              · have h' := i_lt h
                rw [if_pos h, if_neg (show ¬ 0 ≤ x2 by rw [Int32.le_iff_toInt_le]; omega), p69_0 (by decide)]
                exact ⟨_, _, _, _, rfl, rfl⟩
              · have h' := i_nlt h
                obtain ⟨r, s', l, w, f8, f9⟩ := pl_loop (sh := m_shelf) (by decide) (show (2 : Int32).toInt = ((2 : Nat) : Int) by decide) (show 0 ≤ x2.toInt by omega) h3.2 a2 d2 l2 b2 b1 q5 t2 700 (0 : Int32) m_planned m_planLine m_planWay (by decide) (by omega) o0 o1 o2 o3 (by omega)
                rw [if_neg h, if_pos (show 0 ≤ x2 by rw [Int32.le_iff_toInt_le]; omega), f9]
                unfold fX3_appendFrom
                rw [f8, bs_4]
                exact ⟨_, _, _, _, rfl, rfl⟩
            · rw [if_neg hs, if_neg (show ¬ (50 : Int32) + v_shelves2_sort = 50 by intro q; rw [q, n50] at e; exact hs (Int32.toInt_inj.mp (by omega)))]
              exact ⟨_, _, _, _, rfl, rfl⟩
        · rw [if_neg (show ¬ (3 : Int32) = 0 by decide), if_neg (show ¬ (3 : Int32) = 1 by decide), if_neg (show ¬ (3 : Int32) = 2 by decide), if_pos (rfl : (3 : Int32) = 3)]
          rcases c3 with ⟨h1, h2⟩ | ⟨h1, h2, q3, q4, q5⟩ | ⟨h1, h2, q3, q4, q5⟩
          · rw [h1, h2, if_pos (rfl : (0 : Int32) = 0), if_pos (show (-1 : Int32) < 0 by decide), ck_t (i_inb hx.1 (by omega)), if_neg (show ¬ (-1 : Int32) = 50 by decide), p69_0 (by decide)]
            exact ⟨_, _, _, _, rfl, rfl⟩
          · rw [h1, h2, if_neg (show ¬ (1 : Int32) = 0 by decide), if_neg (show ¬ (1 : Int32) = 2 by decide), if_neg (show ¬ v_shelves3_body < 0 by rw [Int32.lt_iff_toInt_lt]; omega), ck_t (i_inb hx.1 (by omega)), if_neg (show ¬ v_shelves3_body = (50 : Int32) by intro q; rw [q] at q5; omega)]
            exact ⟨_, _, _, _, rfl, rfl⟩
          · have e : ((50 : Int32) + v_shelves3_sort).toInt = 50 + v_shelves3_sort.toInt := by rw [i_addE rfl (by omega) (by omega), n50]
            rw [h1, h2, if_neg (show ¬ (2 : Int32) = 0 by decide), if_pos (rfl : (2 : Int32) = 2), if_neg (show ¬ (50 : Int32) + v_shelves3_sort < 0 by rw [Int32.lt_iff_toInt_lt]; omega), ck_t (i_inb hx.1 (by omega))]
            by_cases hs : v_shelves3_sort = 0
            · rw [if_pos hs, hs, if_pos (show (50 : Int32) + 0 = 50 by decide), ck_t (i_inb hx.1 (by omega)), if_pos (show (50 : Int32) + 0 = 50 by decide)]
              by_cases h : x2 < 0
              · have h' := i_lt h
                rw [if_pos h, if_neg (show ¬ 0 ≤ x2 by rw [Int32.le_iff_toInt_le]; omega), p69_0 (by decide)]
                exact ⟨_, _, _, _, rfl, rfl⟩
              · have h' := i_nlt h
                obtain ⟨r, s', l, w, f8, f9⟩ := pl_loop (sh := m_shelf) (by decide) (show (3 : Int32).toInt = ((3 : Nat) : Int) by decide) (show 0 ≤ x2.toInt by omega) h3.2 a3 d3 l3 b2 b1 q5 t3 700 (0 : Int32) m_planned m_planLine m_planWay (by decide) (by omega) o0 o1 o2 o3 (by omega)
                rw [if_neg h, if_pos (show 0 ≤ x2 by rw [Int32.le_iff_toInt_le]; omega), f9]
                unfold fX3_appendFrom
                rw [f8, bs_4]
                exact ⟨_, _, _, _, rfl, rfl⟩
            · rw [if_neg hs, if_neg (show ¬ (50 : Int32) + v_shelves3_sort = 50 by intro q; rw [q, n50] at e; exact hs (Int32.toInt_inj.mp (by omega)))]
              exact ⟨_, _, _, _, rfl, rfl⟩
        · rw [if_neg (show ¬ (4 : Int32) = 0 by decide), if_neg (show ¬ (4 : Int32) = 1 by decide), if_neg (show ¬ (4 : Int32) = 2 by decide), if_neg (show ¬ (4 : Int32) = 3 by decide), if_pos (rfl : (4 : Int32) = 4)]
          rcases c4 with ⟨h1, h2⟩ | ⟨h1, h2, q3, q4, q5⟩ | ⟨h1, h2, q3, q4, q5⟩
          · rw [h1, h2, if_pos (rfl : (0 : Int32) = 0), if_pos (show (-1 : Int32) < 0 by decide), ck_t (i_inb hx.1 (by omega)), if_neg (show ¬ (-1 : Int32) = 50 by decide), p69_0 (by decide)]
            exact ⟨_, _, _, _, rfl, rfl⟩
          · rw [h1, h2, if_neg (show ¬ (1 : Int32) = 0 by decide), if_neg (show ¬ (1 : Int32) = 2 by decide), if_neg (show ¬ v_shelves4_body < 0 by rw [Int32.lt_iff_toInt_lt]; omega), ck_t (i_inb hx.1 (by omega)), if_neg (show ¬ v_shelves4_body = (50 : Int32) by intro q; rw [q] at q5; omega)]
            exact ⟨_, _, _, _, rfl, rfl⟩
          · have e : ((50 : Int32) + v_shelves4_sort).toInt = 50 + v_shelves4_sort.toInt := by rw [i_addE rfl (by omega) (by omega), n50]
            rw [h1, h2, if_neg (show ¬ (2 : Int32) = 0 by decide), if_pos (rfl : (2 : Int32) = 2), if_neg (show ¬ (50 : Int32) + v_shelves4_sort < 0 by rw [Int32.lt_iff_toInt_lt]; omega), ck_t (i_inb hx.1 (by omega))]
            by_cases hs : v_shelves4_sort = 0
            · rw [if_pos hs, hs, if_pos (show (50 : Int32) + 0 = 50 by decide), ck_t (i_inb hx.1 (by omega)), if_pos (show (50 : Int32) + 0 = 50 by decide)]
              by_cases h : x2 < 0
              · have h' := i_lt h
                rw [if_pos h, if_neg (show ¬ 0 ≤ x2 by rw [Int32.le_iff_toInt_le]; omega), p69_0 (by decide)]
                exact ⟨_, _, _, _, rfl, rfl⟩
              · have h' := i_nlt h
                obtain ⟨r, s', l, w, f8, f9⟩ := pl_loop (sh := m_shelf) (by decide) (show (4 : Int32).toInt = ((4 : Nat) : Int) by decide) (show 0 ≤ x2.toInt by omega) h3.2 a4 d4 l4 b2 b1 q5 t4 700 (0 : Int32) m_planned m_planLine m_planWay (by decide) (by omega) o0 o1 o2 o3 (by omega)
                rw [if_neg h, if_pos (show 0 ≤ x2 by rw [Int32.le_iff_toInt_le]; omega), f9]
                unfold fX3_appendFrom
                rw [f8, bs_4]
                exact ⟨_, _, _, _, rfl, rfl⟩
            · rw [if_neg hs, if_neg (show ¬ (50 : Int32) + v_shelves4_sort = 50 by intro q; rw [q, n50] at e; exact hs (Int32.toInt_inj.mp (by omega)))]
              exact ⟨_, _, _, _, rfl, rfl⟩
        · rw [if_neg (show ¬ (5 : Int32) = 0 by decide), if_neg (show ¬ (5 : Int32) = 1 by decide), if_neg (show ¬ (5 : Int32) = 2 by decide), if_neg (show ¬ (5 : Int32) = 3 by decide), if_neg (show ¬ (5 : Int32) = 4 by decide), if_pos (rfl : (5 : Int32) = 5)]
          rcases c5 with ⟨h1, h2⟩ | ⟨h1, h2, q3, q4, q5⟩ | ⟨h1, h2, q3, q4, q5⟩
          · rw [h1, h2, if_pos (rfl : (0 : Int32) = 0), if_pos (show (-1 : Int32) < 0 by decide), ck_t (i_inb hx.1 (by omega)), if_neg (show ¬ (-1 : Int32) = 50 by decide), p69_0 (by decide)]
            exact ⟨_, _, _, _, rfl, rfl⟩
          · rw [h1, h2, if_neg (show ¬ (1 : Int32) = 0 by decide), if_neg (show ¬ (1 : Int32) = 2 by decide), if_neg (show ¬ v_shelves5_body < 0 by rw [Int32.lt_iff_toInt_lt]; omega), ck_t (i_inb hx.1 (by omega)), if_neg (show ¬ v_shelves5_body = (50 : Int32) by intro q; rw [q] at q5; omega)]
            exact ⟨_, _, _, _, rfl, rfl⟩
          · have e : ((50 : Int32) + v_shelves5_sort).toInt = 50 + v_shelves5_sort.toInt := by rw [i_addE rfl (by omega) (by omega), n50]
            rw [h1, h2, if_neg (show ¬ (2 : Int32) = 0 by decide), if_pos (rfl : (2 : Int32) = 2), if_neg (show ¬ (50 : Int32) + v_shelves5_sort < 0 by rw [Int32.lt_iff_toInt_lt]; omega), ck_t (i_inb hx.1 (by omega))]
            by_cases hs : v_shelves5_sort = 0
            · rw [if_pos hs, hs, if_pos (show (50 : Int32) + 0 = 50 by decide), ck_t (i_inb hx.1 (by omega)), if_pos (show (50 : Int32) + 0 = 50 by decide)]
              by_cases h : x2 < 0
              · have h' := i_lt h
                rw [if_pos h, if_neg (show ¬ 0 ≤ x2 by rw [Int32.le_iff_toInt_le]; omega), p69_0 (by decide)]
                exact ⟨_, _, _, _, rfl, rfl⟩
              · have h' := i_nlt h
                obtain ⟨r, s', l, w, f8, f9⟩ := pl_loop (sh := m_shelf) (by decide) (show (5 : Int32).toInt = ((5 : Nat) : Int) by decide) (show 0 ≤ x2.toInt by omega) h3.2 a5 d5 l5 b2 b1 q5 t5 700 (0 : Int32) m_planned m_planLine m_planWay (by decide) (by omega) o0 o1 o2 o3 (by omega)
                rw [if_neg h, if_pos (show 0 ≤ x2 by rw [Int32.le_iff_toInt_le]; omega), f9]
                unfold fX3_appendFrom
                rw [f8, bs_4]
                exact ⟨_, _, _, _, rfl, rfl⟩
            · rw [if_neg hs, if_neg (show ¬ (50 : Int32) + v_shelves5_sort = 50 by intro q; rw [q, n50] at e; exact hs (Int32.toInt_inj.mp (by omega)))]
              exact ⟨_, _, _, _, rfl, rfl⟩
      · rw [decide_eq_false h3, if_pos (rfl : false = false)]
        by_cases c : x3 < (1 : Int32)
        · rw [if_pos c]
          exact ⟨_, _, _, _, rfl, rfl⟩
        · have c' := i_nlt c
          rw [if_neg c, if_neg (show ¬ x3 ≤ (12 : Int32) by rw [Int32.le_iff_toInt_le]; omega)]
          exact ⟨_, _, _, _, rfl, rfl⟩
    · rw [decide_eq_false hx, if_pos (rfl : false = false), if_pos (rfl : false = false)]
      exact ⟨_, _, _, _, rfl, rfl⟩
  obtain ⟨r, s, l, w, e8, e9⟩ := X
  have k8 := wp_get (st8_plans g8_0 g8_1 g8_2 g8_3 g8_4 g8_5 g8_6) e8
  have k9 := wp_get (st9_plans g9_0 g9_1) e9
  exact ⟨_, _, _, _, _, _, _, e8, e9, k8, k9, hr_0, hr_1, ⟨rfl, rfl, rfl⟩⟩
end
section
/-! Geometry: the class's turn, field by field -/
theorem ge_is (l : List Int32) (i v : Int32) (k : Nat) (hk : k < l.length) : (mm_is l i v).getD k 0 = if i.toInt.toNat = k then v else l.getD k 0 := by
  show (l.set i.toInt.toNat v).getD k 0 = _
  rw [List.getD_eq_getElem?_getD, List.getElem?_set, List.getD_eq_getElem?_getD]
  by_cases e : i.toInt.toNat = k
  · rw [if_pos e, if_pos e, if_pos (by rw [e]; exact hk)]
    rfl
  · rw [if_neg e, if_neg e]
theorem ge_ig (l : List Int32) (i : Int32) : mm_ig l i = l.getD i.toInt.toNat 0 := rfl
theorem ck_x {α : Type} {c : Bool} {x : Option α} {z : α} (h : mm_ck c x = some z) : x = some z := (mm_cks h).2
theorem sm_i {α : Type} {a b : α} (h : some a = some b) : a = b := by
  injection h
/-- l1 is l but for v at place i -/
def ps_w (l l1 : List Int32) (i : Nat) (v : Int32) : Prop := l1.length = l.length ∧ ∀ k : Nat, k < l.length → l1.getD k 0 = if i = k then v else l.getD k 0
theorem ps_is (l : List Int32) (i v : Int32) : ps_w l (mm_is l i v) i.toInt.toNat v := ⟨is_len l i v, fun k hk => ge_is l i v k hk⟩
theorem ps_id (l : List Int32) (i : Nat) : ps_w l l i (l.getD i 0) := ⟨rfl, fun k _ => by
  by_cases e : i = k
  · rw [if_pos e, e]
  · rw [if_neg e]⟩
theorem ps_at {l l1 : List Int32} {i : Nat} {v : Int32} (h : ps_w l l1 i v) (k : i < l.length) : l1.getD i 0 = v := by rw [h.2 i k, if_pos rfl]
theorem ps_ne {l l1 : List Int32} {i k : Nat} {v : Int32} (h : ps_w l l1 i v) (k1 : k < l.length) (n : i ≠ k) : l1.getD k 0 = l.getD k 0 := by rw [h.2 k k1, if_neg n]
def al_w (w r c : Int32) : Int32 := if (4 : Int32) ≤ w then r else c
def ac_w (w r c : Int32) : Int32 := if (4 : Int32) ≤ w then c else r
def csw (w : Int32) : Bool := decide ((w &&& (2 : Int32)) = 0)
def ovw (w : Int32) : Bool := decide ((w &&& (1 : Int32)) = 0)
/-- does the field at place a come? -/
def cm_w (x1 a : Int32) (b : Bool) : Bool := decide ((if x1 ≤ a then (0 : Int32) else (1 : Int32)) = mm_b b)
def np_w (x1 st a : Int32) (co : Bool) : Int32 := (if co = true then (((2 : Int32) * x1) - (1 : Int32)) - a else a) - st
def nb_w (co ov : Bool) (own met b : Int32) : Int32 := if co = true then (if ov = true then ((own - (1 : Int32)) - b) + met else (own - (1 : Int32)) - b) else (if ov = true then b else b + met)
def nf_w (co : Bool) (f : Int32) : Int32 := if co = true then (1 : Int32) - f else f
def ta_w (T : List Int32) (high wide w m x : Int32) : Int32 := if m < 0 then 0 else if m < (if (4 : Int32) ≤ w then high else wide) then (if (4 : Int32) ≤ w then mm_ig T ((m * (8 : Int32)) + x) else mm_ig T ((x * (8 : Int32)) + m)) else 0
theorem al_e {i w a : Int32} {R C : List Int32} (h : fX5_along 700 i w R C = some a) : a = al_w w (R.getD i.toInt.toNat 0) (C.getD i.toInt.toNat 0) := by
  unfold fX5_along at h
  unfold al_w
  by_cases c : (4 : Int32) ≤ w
  · rw [if_pos c] at h ⊢
    exact (sm_i (ck_x h)).symm
  · rw [if_neg c] at h ⊢
    exact (sm_i (ck_x h)).symm
theorem ac_e {i w a : Int32} {R C : List Int32} (h : fX5_across 700 i w R C = some a) : a = ac_w w (R.getD i.toInt.toNat 0) (C.getD i.toInt.toNat 0) := by
  unfold fX5_across at h
  unfold ac_w
  by_cases c : (4 : Int32) ≤ w
  · rw [if_pos c] at h ⊢
    exact (sm_i (ck_x h)).symm
  · rw [if_neg c] at h ⊢
    exact (sm_i (ck_x h)).symm
theorem sp_e {w high wide r : Int32} (h : fX5_span 700 w high wide = some r) : r = if (4 : Int32) ≤ w then high else wide := by
  unfold fX5_span at h
  by_cases c : (4 : Int32) ≤ w
  · rw [if_pos c] at h ⊢
    exact (sm_i h).symm
  · rw [if_neg c] at h ⊢
    exact (sm_i h).symm
theorem cs_e {w : Int32} {r : Bool} (h : fX5_comesFromStart 700 w = some r) : r = csw w := by
  unfold fX5_comesFromStart at h
  unfold csw
  by_cases c : (w &&& (2 : Int32)) = 0
  · rw [if_pos c] at h
    rw [decide_eq_true c]
    exact (sm_i h).symm
  · rw [if_neg c] at h
    rw [decide_eq_false c]
    exact (sm_i h).symm
theorem ov_e {w : Int32} {r : Bool} (h : fX5_comesOver 700 w = some r) : r = ovw w := by
  unfold fX5_comesOver at h
  unfold ovw
  by_cases c : (w &&& (1 : Int32)) = 0
  · rw [if_pos c] at h
    rw [decide_eq_true c]
    exact (sm_i h).symm
  · rw [if_neg c] at h
    rw [decide_eq_false c]
    exact (sm_i h).symm
theorem ta_e {m x w high wide r : Int32} {T : List Int32} (h : fX5_tallAt 700 m x w high wide T = some r) : r = ta_w T high wide w m x := by
  unfold fX5_tallAt at h
  unfold ta_w
  by_cases c : m < 0
  · rw [if_pos c] at h ⊢
    exact (sm_i h).symm
  · rw [if_neg c] at h ⊢
    obtain ⟨s, es, h⟩ := mm_bd1s h
    have hs := sp_e es
    rw [← hs]
    by_cases d : m < s
    · rw [if_pos d] at h ⊢
      by_cases f : (4 : Int32) ≤ w
      · rw [if_pos f] at h ⊢
        exact (sm_i (ck_x h)).symm
      · rw [if_neg f] at h ⊢
        exact (sm_i (ck_x h)).symm
    · rw [if_neg d] at h ⊢
      exact (sm_i h).symm
theorem sa_e {i w v : Int32} {R C R1 C1 : List Int32} (h : fX5_setAlong 700 i w v R C = some (R1, C1)) : ps_w R R1 i.toInt.toNat (if (4 : Int32) ≤ w then v else R.getD i.toInt.toNat 0) ∧ ps_w C C1 i.toInt.toNat (if (4 : Int32) ≤ w then C.getD i.toInt.toNat 0 else v) := by
  unfold fX5_setAlong at h
  by_cases c : (4 : Int32) ≤ w
  · rw [if_pos c] at h ⊢
    rw [if_pos c]
    have h := ck_x h
    rw [nm_eq] at h
    have h := sm_i h
    injection h with h1 h2
    subst h1
    subst h2
    exact ⟨ps_is _ _ _, ps_id _ _⟩
  · rw [if_neg c] at h ⊢
    rw [if_neg c]
    have h := ck_x h
    rw [nm_eq] at h
    have h := sm_i h
    injection h with h1 h2
    subst h1
    subst h2
    exact ⟨ps_id _ _, ps_is _ _ _⟩
theorem tu_188 {β : Type} {k : Int32 → Int32 → Int32 → Int32 → Int32 → Int32 → Int32 → Int32 → List Int32 → List Int32 → List Int32 → List Int32 → List Int32 → Option (Int32 × Int32 × List Int32 × List Int32 × List Int32 × List Int32 × List Int32)} {x1 x2 x4 x5 x6 rows cols high wide : Int32} {R C B F T : List Int32} {z : Int32 × Int32 × List Int32 × List Int32 × List Int32 × List Int32 × List Int32} (e : fX5_turn_188 700 k x1 x2 x4 x5 x6 rows cols high wide R C B F T = some z) : ∃ R1 C1 : List Int32, k x1 x2 x4 (x5 + (1 : Int32)) rows cols high wide R1 C1 B F T = some z ∧ ps_w R R1 x5.toInt.toNat (if (4 : Int32) ≤ x2 then x6 - x4 else R.getD x5.toInt.toNat 0) ∧ ps_w C C1 x5.toInt.toNat (if (4 : Int32) ≤ x2 then C.getD x5.toInt.toNat 0 else x6 - x4) := by
  unfold fX5_turn_188 at e
  obtain ⟨R1, C1, es, e⟩ := mm_bd2s e
  rw [nm_eq] at e
  exact ⟨R1, C1, e, sa_e es⟩
theorem tu_144 {k : Int32 → Int32 → Int32 → Int32 → Int32 → Int32 → Int32 → Int32 → List Int32 → List Int32 → List Int32 → List Int32 → List Int32 → Option (Int32 × Int32 × List Int32 × List Int32 × List Int32 × List Int32 × List Int32)} {x1 x2 x4 x5 x7 s0 s1 rows cols high wide : Int32} {R C B F T : List Int32} {z : Int32 × Int32 × List Int32 × List Int32 × List Int32 × List Int32 × List Int32} (e : fX5_turn_144 700 k x1 x2 x4 x5 x7 s0 s1 x5 rows cols high wide R C B F T = some z) : ∃ R1 C1 B1 F1 : List Int32, k x1 x2 x4 (x5 + (1 : Int32)) rows cols high wide R1 C1 B1 F1 T = some z ∧ ps_w R R1 x5.toInt.toNat (if (4 : Int32) ≤ x2 then x7 - x4 else R.getD x5.toInt.toNat 0) ∧ ps_w C C1 x5.toInt.toNat (if (4 : Int32) ≤ x2 then C.getD x5.toInt.toNat 0 else x7 - x4) ∧ ps_w B B1 x5.toInt.toNat (s1 + s0) ∧ ps_w F F1 x5.toInt.toNat ((1 : Int32) - F.getD x5.toInt.toNat 0) := by
  unfold fX5_turn_144 at e
  rw [nm_eq] at e
  have e := ck_x e
  rw [nm_eq] at e
  have e := ck_x e
  rw [nm_eq] at e
  have e := ck_x e
  rw [nm_eq] at e
  obtain ⟨R1, C1, e, h1, h2⟩ := tu_188 (β := Unit) e
  exact ⟨R1, C1, _, _, e, h1, h2, ps_is _ _ _, ps_is _ _ _⟩
/-- a field before and behind the fold -/
def mv_w (T : List Int32) (high wide w x1 st r c b f r' c' b' f' : Int32) : Prop := b' = nb_w (cm_w x1 (al_w w r c) (csw w)) (ovw w) (ta_w T high wide w (al_w w r c) (ac_w w r c)) (ta_w T high wide w ((((2 : Int32) * x1) - (1 : Int32)) - al_w w r c) (ac_w w r c)) b ∧ f' = nf_w (cm_w x1 (al_w w r c) (csw w)) f ∧ r' = (if (4 : Int32) ≤ w then np_w x1 st (al_w w r c) (cm_w x1 (al_w w r c) (csw w)) else r) ∧ c' = (if (4 : Int32) ≤ w then c else np_w x1 st (al_w w r c) (cm_w x1 (al_w w r c) (csw w)))
theorem tu_90 {k : Int32 → Int32 → Int32 → Int32 → Int32 → Int32 → Int32 → Int32 → List Int32 → List Int32 → List Int32 → List Int32 → List Int32 → Option (Int32 × Int32 × List Int32 × List Int32 × List Int32 × List Int32 × List Int32)} {x1 x2 x4 x5 a t rows cols high wide : Int32} {R C B F T : List Int32} {z : Int32 × Int32 × List Int32 × List Int32 × List Int32 × List Int32 × List Int32} (ha : a = al_w x2 (R.getD x5.toInt.toNat 0) (C.getD x5.toInt.toNat 0)) (ht : t = ta_w T high wide x2 ((((2 : Int32) * x1) - (1 : Int32)) - a) (ac_w x2 (R.getD x5.toInt.toNat 0) (C.getD x5.toInt.toNat 0))) (e : fX5_turn_90 700 k x1 x2 x4 x5 a ((((2 : Int32) * x1) - (1 : Int32)) - a) t (if x1 ≤ a then (0 : Int32) else (1 : Int32)) rows cols high wide R C B F T = some z) : ∃ R1 C1 B1 F1 : List Int32, k x1 x2 x4 (x5 + (1 : Int32)) rows cols high wide R1 C1 B1 F1 T = some z ∧ ∃ r' c' b' f' : Int32, mv_w T high wide x2 x1 x4 (R.getD x5.toInt.toNat 0) (C.getD x5.toInt.toNat 0) (B.getD x5.toInt.toNat 0) (F.getD x5.toInt.toNat 0) r' c' b' f' ∧ ps_w R R1 x5.toInt.toNat r' ∧ ps_w C C1 x5.toInt.toNat c' ∧ ps_w B B1 x5.toInt.toNat b' ∧ ps_w F F1 x5.toInt.toNat f' := by
  unfold fX5_turn_90 at e
  obtain ⟨q, eq, e⟩ := mm_bd1s e
  have hq := cs_e eq
  subst hq
  unfold mv_w
  rw [← ha, ← ht]
  by_cases c : (if x1 ≤ a then (0 : Int32) else (1 : Int32)) = mm_b (csw x2)
  · rw [if_pos c] at e
    have hc : cm_w x1 a (csw x2) = true := decide_eq_true c
    rw [hc]
    obtain ⟨x, ex, e⟩ := mm_bd1s e
    have hx := ac_e ex
    obtain ⟨o, eo, e⟩ := mm_bd1s e
    have ho := ta_e eo
    rw [hx] at ho
    rw [← ho]
    have e := ck_x e
    obtain ⟨v, ev, e⟩ := mm_bd1s e
    have hv := ov_e ev
    subst hv
    by_cases d : ovw x2 = false
    · rw [if_pos d] at e
      rw [d]
      obtain ⟨R1, C1, B1, F1, e, h1, h2, h3, h4⟩ := tu_144 e
      refine ⟨R1, C1, B1, F1, e, _, _, _, _, ⟨rfl, rfl, rfl, rfl⟩, h1, h2, ?_, h4⟩
      have z0 : ((o - (1 : Int32)) - (mm_ig B x5)) + (0 : Int32) = (o - (1 : Int32)) - (mm_ig B x5) := Int32.add_zero _
      rw [z0] at h3
      exact h3
    · rw [if_neg d] at e
      have d : ovw x2 = true := by
        cases h : ovw x2
        · exact absurd h d
        · rfl
      rw [d]
      obtain ⟨R1, C1, B1, F1, e, h1, h2, h3, h4⟩ := tu_144 e
      exact ⟨R1, C1, B1, F1, e, _, _, _, _, ⟨rfl, rfl, rfl, rfl⟩, h1, h2, h3, h4⟩
  · rw [if_neg c] at e
    have hc : cm_w x1 a (csw x2) = false := decide_eq_false c
    rw [hc]
    obtain ⟨v, ev, e⟩ := mm_bd1s e
    have hv := ov_e ev
    subst hv
    by_cases d : ovw x2 = false
    · rw [if_pos d] at e
      rw [d]
      have e := ck_x e
      rw [nm_eq] at e
      have e := ck_x e
      rw [nm_eq] at e
      obtain ⟨R1, C1, e, h1, h2⟩ := tu_188 (β := Unit) e
      exact ⟨R1, C1, _, _, e, _, _, _, _, ⟨rfl, rfl, rfl, rfl⟩, h1, h2, ps_is _ _ _, ps_id _ _⟩
    · rw [if_neg d] at e
      have d : ovw x2 = true := by
        cases h : ovw x2
        · exact absurd h d
        · rfl
      rw [d]
      obtain ⟨R1, C1, e, h1, h2⟩ := tu_188 (β := Unit) e
      exact ⟨R1, C1, _, _, e, _, _, _, _, ⟨rfl, rfl, rfl, rfl⟩, h1, h2, ps_id _ _, ps_id _ _⟩
theorem tu_35 {x1 x2 x4 rows cols high wide : Int32} {T : List Int32} {m : Nat} (hm : (rows * cols).toInt = m) (m32 : m ≤ 32) : ∀ (n : Nat) (x5 : Int32) (R C B F : List Int32) (h' w' : Int32) (R' C' B' F' T' : List Int32), fX5_turn_35 700 n x1 x2 x4 x5 rows cols high wide R C B F T = some (h', w', R', C', B', F', T') → 0 ≤ x5.toInt → x5.toInt ≤ m → R.length = 32 → C.length = 32 → B.length = 32 → F.length = 32 → (h' = (if (4 : Int32) ≤ x2 then mm_max x1 (high - x1) else high) ∧ w' = (if (4 : Int32) ≤ x2 then wide else mm_max x1 (wide - x1))) ∧ (∀ k : Nat, k < x5.toInt.toNat → R'.getD k 0 = R.getD k 0 ∧ C'.getD k 0 = C.getD k 0 ∧ B'.getD k 0 = B.getD k 0 ∧ F'.getD k 0 = F.getD k 0) ∧ (∀ k : Nat, x5.toInt.toNat ≤ k → k < m → mv_w T high wide x2 x1 x4 (R.getD k 0) (C.getD k 0) (B.getD k 0) (F.getD k 0) (R'.getD k 0) (C'.getD k 0) (B'.getD k 0) (F'.getD k 0)) := by
  have n1 : (1 : Int32).toInt = 1 := by decide
  intro n
  induction n with
  | zero =>
    intro x5 R C B F h' w' R' C' B' F' T' e
    exact absurd e (by intro h; cases h)
  | succ n ih =>
    intro x5 R C B F h' w' R' C' B' F' T' e p0 p1 l1 l2 l3 l4
    rw [uf_X5_turn_35] at e
    obtain ⟨fl, ef, e⟩ := mm_bd1s e
    have hf : rows * cols = fl := sm_i ef
    subst hf
    by_cases c : rows * cols ≤ x5
    · rw [if_pos c] at e
      have d := i_le c
      obtain ⟨s, es, e⟩ := mm_bd1s e
      obtain ⟨u, v, en, e⟩ := mm_bd2s e
      have e := sm_i e
      injection e with e1 e
      injection e with e2 e
      injection e with e3 e
      injection e with e4 e
      injection e with e5 e
      injection e with e6 e
      subst e1 e2 e3 e4 e5 e6
      refine ⟨?_, fun k hk => ⟨rfl, rfl, rfl, rfl⟩, fun k k0 k1 => absurd k1 (by omega)⟩
      unfold fX5_spanBehind at es
      obtain ⟨q, eq, es⟩ := mm_bd1s es
      have hq := sp_e eq
      have hs := sm_i es
      unfold fX5_narrow at en
      by_cases f : (4 : Int32) ≤ x2
      · rw [if_pos f] at en hq
        have en := sm_i en
        injection en with e7 e8
        rw [if_pos f, if_pos f, ← e7, ← e8, ← hs, hq]
        exact ⟨rfl, rfl⟩
      · rw [if_neg f] at en hq
        have en := sm_i en
        injection en with e7 e8
        rw [if_neg f, if_neg f, ← e7, ← e8, ← hs, hq]
        exact ⟨rfl, rfl⟩
    · rw [if_neg c] at e
      have d := i_nle c
      obtain ⟨a, ea, e⟩ := mm_bd1s e
      have ha := al_e ea
      rw [nm_eq] at e
      obtain ⟨x, ex, e⟩ := mm_bd1s e
      have hx := ac_e ex
      obtain ⟨t, et, e⟩ := mm_bd1s e
      have ht := ta_e et
      rw [hx] at ht
      have e2 : fX5_turn_90 700 (fX5_turn_35 700 n) x1 x2 x4 x5 a ((((2 : Int32) * x1) - (1 : Int32)) - a) t (if x1 ≤ a then (0 : Int32) else (1 : Int32)) rows cols high wide R C B F T = some (h', w', R', C', B', F', T') := by
        by_cases g : x1 ≤ a
        · rw [if_pos g] at e ⊢
          exact e
        · rw [if_neg g] at e ⊢
          exact e
      obtain ⟨R1, C1, B1, F1, e3, r', c', b', f', hv, s1, s2, s3, s4⟩ := tu_90 ha ht e2
      generalize hy : x5 + (1 : Int32) = y at e3
      have ey := i_addE hy (by omega) (by omega)
      obtain ⟨j1, j2, j3⟩ := ih y R1 C1 B1 F1 h' w' R' C' B' F' T' e3 (by omega) (by omega) (by rw [s1.1]; exact l1) (by rw [s2.1]; exact l2) (by rw [s3.1]; exact l3) (by rw [s4.1]; exact l4)
      refine ⟨j1, fun k hk => ?_, fun k k0 k1 => ?_⟩
      · obtain ⟨q1, q2, q3, q4⟩ := j2 k (by omega)
        rw [q1, q2, q3, q4, ps_ne s1 (by omega) (by omega), ps_ne s2 (by omega) (by omega), ps_ne s3 (by omega) (by omega), ps_ne s4 (by omega) (by omega)]
        exact ⟨rfl, rfl, rfl, rfl⟩
      · by_cases g : x5.toInt.toNat = k
        · obtain ⟨q1, q2, q3, q4⟩ := j2 k (by omega)
          rw [← g] at q1 q2 q3 q4 ⊢
          rw [q1, q2, q3, q4, ps_at s1 (by omega), ps_at s2 (by omega), ps_at s3 (by omega), ps_at s4 (by omega)]
          exact hv
        · have q := j3 k (by omega) k1
          rw [ps_ne s1 (by omega) g, ps_ne s2 (by omega) g, ps_ne s3 (by omega) g, ps_ne s4 (by omega) g] at q
          exact q
end
section
/-! Geometry: the reference's moves, field by field -/
theorem ix_e {x1 x9 : Int32} (h0 : 0 ≤ x1.toInt) (h1 : x1.toInt ≤ 5) (k0 : 0 ≤ x9.toInt) (k1 : x9.toInt ≤ 64) : (((32 : Int32) * x1) + x9).toInt.toNat = 32 * x1.toInt.toNat + x9.toInt.toNat := by
  generalize hz : (32 : Int32) * x1 = z
  have ez := i_mulLE (c := 32) (by decide) hz (by omega) (by omega)
  generalize hy : z + x9 = y
  have ey := i_addE hy (by omega) (by omega)
  omega
theorem wn_x (a l h : Int64) : fX9_within 700 a l h = some (decide (l.toInt ≤ a.toInt ∧ a.toInt ≤ h.toInt)) := by
  obtain ⟨w, ew, qw⟩ := sf_X9_within (Nat.le_refl 700) (x0 := a) (x2 := l) (x4 := h)
  rw [ew]
  rcases qw with ⟨rfl, q0, q1⟩ | ⟨rfl, q0⟩
  · rw [decide_eq_true ⟨q0, q1⟩]
  · rw [decide_eq_false (by omega)]
def pl_w (x4 r c : Int32) : Int32 := if x4 = 0 then r else c
def pc_w (x4 r c : Int32) : Int32 := if x4 = 0 then c else r
theorem pl_e {x1 x2 x3 a : Int32} {row col : List Int32} (h : fX9_placeOf 700 x1 x2 x3 row col = some a) : a = pl_w x3 (row.getD (((32 : Int32) * x1) + x2).toInt.toNat 0) (col.getD (((32 : Int32) * x1) + x2).toInt.toNat 0) := by
  unfold fX9_placeOf at h
  unfold pl_w
  by_cases c : x3 = 0
  · rw [if_pos c] at h ⊢
    exact (sm_i (ck_x h)).symm
  · rw [if_neg c] at h ⊢
    exact (sm_i (ck_x h)).symm
theorem pl_not (x4 r c : Int32) : pl_w (if x4 = 0 then (1 : Int32) else (0 : Int32)) r c = pc_w x4 r c := by
  unfold pl_w pc_w
  by_cases h : x4 = 0
  · rw [if_pos h, if_pos h, if_neg (by decide)]
  · rw [if_neg h, if_neg h, if_pos rfl]
/-- how many of the places from j on, m of them, are such -/
def kc_w (p : Nat → Bool) : Nat → Nat → Int32
  | _, 0 => 0
  | j, m + 1 => (if p j = true then (1 : Int32) else (0 : Int32)) + kc_w p (j + 1) m
theorem kc_c {p q : Nat → Bool} : ∀ (m j : Nat), (∀ k : Nat, j ≤ k → k < j + m → p k = q k) → kc_w p j m = kc_w q j m := by
  intro m
  induction m with
  | zero =>
    intro j _
    rfl
  | succ m ih =>
    intro j h
    show (if p j = true then (1 : Int32) else (0 : Int32)) + kc_w p (j + 1) m = (if q j = true then (1 : Int32) else (0 : Int32)) + kc_w q (j + 1) m
    rw [h j (by omega) (by omega), ih (j + 1) (fun k k0 k1 => h k (by omega) (by omega))]
def iw_w (x4 r c : Int32) : Int32 := ((8 : Int32) * pc_w x4 r c) + pl_w x4 r c
theorem pm_94 {x1 x2 x4 x5 x6 x7 x8 ro co : Int32} {sR sC row col bel fac hi to : List Int32} {z : (List Int32 × List Int32 × List Int32 × List Int32 × List Int32 × List Int32 × List Int32 × List Int32 × List Int32)} : ∀ (n : Nat) (x9 : Int32) (PS : List Int32), fX9_movesAll_94 700 n x1 x2 x4 x5 x6 x7 x8 x9 ro co sR sC row col bel fac hi to PS = some z → 0 ≤ x9.toInt → x9.toInt ≤ 64 → PS.length = 64 → (∀ k : Nat, k < x9.toInt.toNat → PS.getD k 0 = 0) → ∃ PS1 : List Int32, PS1.length = 64 ∧ (∀ k : Nat, k < 64 → PS1.getD k 0 = 0) ∧ fX9_movesAll_118 700 700 x1 x2 x4 x5 x6 x7 x8 (0 : Int32) ro co sR sC row col bel fac hi to PS1 = some z := by
  have n1 : (1 : Int32).toInt = 1 := by decide
  have n64 : (64 : Int32).toInt = 64 := by decide
  intro n
  induction n with
  | zero =>
    intro x9 PS e
    exact absurd e (by intro h; cases h)
  | succ n ih =>
    intro x9 PS e p0 p1 l H
    rw [uf_X9_movesAll_94] at e
    by_cases c : (64 : Int32) ≤ x9
    · rw [if_pos c] at e
      have d := i_le c
      exact ⟨PS, l, fun k hk => H k (by omega), e⟩
    · rw [if_neg c] at e
      have d := i_nle c
      have e := ck_x e
      rw [nm_eq, nm_eq] at e
      generalize hy : x9 + (1 : Int32) = y at e
      have ey := i_addE hy (by omega) (by omega)
      refine ih y (mm_is PS x9 (0 : Int32)) e (by omega) (by omega) (by rw [is_len]; exact l) (fun k hk => ?_)
      rw [ge_is _ _ _ _ (by omega)]
      by_cases g : x9.toInt.toNat = k
      · rw [if_pos g]
      · rw [if_neg g]
        exact H k (by omega)
theorem pm_154 {k : Int32 → Int32 → Int32 → Int32 → Int32 → Int32 → Int32 → Int32 → Int32 → Int32 → List Int32 → List Int32 → List Int32 → List Int32 → List Int32 → List Int32 → List Int32 → List Int32 → List Int32 → Option (List Int32 × List Int32 × List Int32 × List Int32 × List Int32 × List Int32 × List Int32 × List Int32 × List Int32)} {x1 x2 x4 x5 x6 x7 x8 x9 s4 ro co : Int32} {sR sC row col bel fac hi to PS : List Int32} {z : (List Int32 × List Int32 × List Int32 × List Int32 × List Int32 × List Int32 × List Int32 × List Int32 × List Int32)} (h4 : s4 = pl_w x4 (row.getD (((32 : Int32) * x1) + x9).toInt.toNat 0) (col.getD (((32 : Int32) * x1) + x9).toInt.toNat 0)) (e : fX9_movesAll_154 700 k x1 x2 x4 x5 x6 x7 x8 x9 (if x4 = 0 then (1 : Int32) else (0 : Int32)) x9 x1 s4 ro co sR sC row col bel fac hi to PS = some z) : k x1 x2 x4 x5 x6 x7 x8 (x9 + (1 : Int32)) ro co sR sC row col bel fac hi to (mm_is PS (iw_w x4 (row.getD (((32 : Int32) * x1) + x9).toInt.toNat 0) (col.getD (((32 : Int32) * x1) + x9).toInt.toNat 0)) (mm_ig PS (iw_w x4 (row.getD (((32 : Int32) * x1) + x9).toInt.toNat 0) (col.getD (((32 : Int32) * x1) + x9).toInt.toNat 0)) + (1 : Int32))) = some z := by
  rw [uf_X9_movesAll_154] at e
  obtain ⟨a, ea, e⟩ := mm_bd1s e
  have ha := pl_e ea
  rw [pl_not] at ha
  obtain ⟨i, ei, e⟩ := mm_bd1s e
  have hi' : ((8 : Int32) * a) + s4 = i := sm_i ei
  have e := ck_x e
  rw [nm_eq] at e
  have e := ck_x e
  rw [nm_eq, nm_eq] at e
  have hj : iw_w x4 (row.getD (((32 : Int32) * x1) + x9).toInt.toNat 0) (col.getD (((32 : Int32) * x1) + x9).toInt.toNat 0) = i := by
    unfold iw_w
    rw [← h4, ← ha]
    exact hi'
  rw [hj]
  exact e
theorem pm_118 {x1 x2 x4 x5 x6 x7 x8 ro co : Int32} {sR sC row col bel fac hi to : List Int32} {z : (List Int32 × List Int32 × List Int32 × List Int32 × List Int32 × List Int32 × List Int32 × List Int32 × List Int32)} {m : Nat} (hm : (ro * co).toInt = m) (m32 : m ≤ 32) (L0 : 0 ≤ x1.toInt) (L5 : x1.toInt ≤ 5) : ∀ (n : Nat) (x9 : Int32) (PS : List Int32), fX9_movesAll_118 700 n x1 x2 x4 x5 x6 x7 x8 x9 ro co sR sC row col bel fac hi to PS = some z → 0 ≤ x9.toInt → x9.toInt ≤ m → PS.length = 64 → ∃ PS1 : List Int32, PS1.length = 64 ∧ (∀ j : Nat, j < 64 → PS1.getD j 0 = PS.getD j 0 + kc_w (fun k => decide ((iw_w x4 (row.getD (32 * x1.toInt.toNat + k) 0) (col.getD (32 * x1.toInt.toNat + k) 0)).toInt.toNat = j)) x9.toInt.toNat (m - x9.toInt.toNat)) ∧ fX9_movesAll_174 700 700 x1 x2 x4 x5 x6 x7 x8 (0 : Int32) ro co sR sC row col bel fac hi to PS1 = some z := by
  have n1 : (1 : Int32).toInt = 1 := by decide
  intro n
  induction n with
  | zero =>
    intro x9 PS e
    exact absurd e (by intro h; cases h)
  | succ n ih =>
    intro x9 PS e p0 p1 l
    rw [uf_X9_movesAll_118] at e
    obtain ⟨fl, ef, e⟩ := mm_bd1s e
    have hf : ro * co = fl := sm_i ef
    subst hf
    by_cases c : ro * co ≤ x9
    · rw [if_pos c] at e
      have d := i_le c
      have q : m - x9.toInt.toNat = 0 := by omega
      refine ⟨PS, l, fun j hj => ?_, e⟩
      rw [q]
      exact (Int32.add_zero _).symm
    · rw [if_neg c] at e
      have d := i_nle c
      obtain ⟨a, ea, e⟩ := mm_bd1s e
      have ha := pl_e ea
      have e2 : fX9_movesAll_154 700 (fX9_movesAll_118 700 n) x1 x2 x4 x5 x6 x7 x8 x9 (if x4 = 0 then (1 : Int32) else (0 : Int32)) x9 x1 a ro co sR sC row col bel fac hi to PS = some z := by
        by_cases g : x4 = 0
        · rw [if_pos g] at e ⊢
          exact e
        · rw [if_neg g] at e ⊢
          exact e
      have e3 := pm_154 ha e2
      rw [ix_e L0 L5 p0 (by omega)] at e3
      generalize hi' : iw_w x4 (row.getD (32 * x1.toInt.toNat + x9.toInt.toNat) 0) (col.getD (32 * x1.toInt.toNat + x9.toInt.toNat) 0) = i at e3
      generalize hy : x9 + (1 : Int32) = y at e3
      have ey := i_addE hy (by omega) (by omega)
      obtain ⟨PS1, q1, q2, q3⟩ := ih y _ e3 (by omega) (by omega) (by rw [is_len]; exact l)
      refine ⟨PS1, q1, fun j hj => ?_, q3⟩
      rw [q2 j hj, ge_is _ _ _ _ (by omega)]
      obtain ⟨u, hu⟩ : ∃ u : Nat, m - x9.toInt.toNat = u + 1 := ⟨m - x9.toInt.toNat - 1, by omega⟩
      have hu2 : m - y.toInt.toNat = u := by omega
      have hy2 : y.toInt.toNat = x9.toInt.toNat + 1 := by omega
      rw [hu, hu2, hy2]
      show _ = PS.getD j 0 + ((if decide ((iw_w x4 (row.getD (32 * x1.toInt.toNat + x9.toInt.toNat) 0) (col.getD (32 * x1.toInt.toNat + x9.toInt.toNat) 0)).toInt.toNat = j) = true then (1 : Int32) else (0 : Int32)) + kc_w _ (x9.toInt.toNat + 1) u)
      rw [hi']
      by_cases g : i.toInt.toNat = j
      · rw [if_pos g, decide_eq_true g, if_pos rfl, ge_ig, g, Int32.add_assoc]
      · rw [if_neg g, decide_eq_false g, if_neg (by decide), Int32.zero_add]
/-- what lies where the place is mirrored to -/
def th_w (PS : List Int32) (x7 m x : Int32) : Int32 := if 0 ≤ m.toInt ∧ m.toInt ≤ (x7 - (1 : Int32)).toInt then PS.getD (((8 : Int32) * x) + m).toInt.toNat 0 else 0
def c9_w (x2 a x5 : Int32) : Bool := decide ((if x2 ≤ a then (0 : Int32) else (1 : Int32)) = x5)
def o9_w (x6 : Int32) : Bool := !decide (x6 = 0)
/-- a field before and behind the fold, as the reference has it -/
def mr_w (PS : List Int32) (x7 x4 x5 x6 x2 x8 r c b f b' f' p' : Int32) : Prop := b' = nb_w (c9_w x2 (pl_w x4 r c) x5) (o9_w x6) (PS.getD (iw_w x4 r c).toInt.toNat 0) (th_w PS x7 ((((2 : Int32) * x2) - (1 : Int32)) - pl_w x4 r c) (pc_w x4 r c)) b ∧ f' = nf_w (c9_w x2 (pl_w x4 r c) x5) f ∧ p' = np_w x2 x8 (pl_w x4 r c) (c9_w x2 (pl_w x4 r c) x5)
theorem pm_276 {k : Int32 → Int32 → Int32 → Int32 → Int32 → Int32 → Int32 → Int32 → Int32 → Int32 → List Int32 → List Int32 → List Int32 → List Int32 → List Int32 → List Int32 → List Int32 → List Int32 → List Int32 → Option (List Int32 × List Int32 × List Int32 × List Int32 × List Int32 × List Int32 × List Int32 × List Int32 × List Int32)} {x1 x2 x4 x5 x6 x7 x8 x9 x10 x11 x12 x14 ro co : Int32} {sR sC row col bel fac hi to PS : List Int32} {z : (List Int32 × List Int32 × List Int32 × List Int32 × List Int32 × List Int32 × List Int32 × List Int32 × List Int32)} (e : fX9_movesAll_276 700 k x1 x2 x4 x5 x6 x7 x8 x9 x10 x11 x12 ((((2 : Int32) * x2) - (1 : Int32)) - x11) x14 (if x2 ≤ x11 then (0 : Int32) else (1 : Int32)) ro co sR sC row col bel fac hi to PS = some z) : ∃ fac1 hi1 to1 : List Int32, k x1 x2 x4 x5 x6 x7 x8 (x9 + (1 : Int32)) ro co sR sC row col bel fac1 hi1 to1 PS = some z ∧ ps_w hi hi1 x9.toInt.toNat (nb_w (c9_w x2 x11 x5) (o9_w x6) (PS.getD (((8 : Int32) * x12) + x11).toInt.toNat 0) x14 (bel.getD x10.toInt.toNat 0)) ∧ ps_w to to1 x9.toInt.toNat (np_w x2 x8 x11 (c9_w x2 x11 x5)) ∧ ps_w fac fac1 x10.toInt.toNat (nf_w (c9_w x2 x11 x5) (fac.getD x10.toInt.toNat 0)) := by
  rw [uf_X9_movesAll_276] at e
  by_cases c : (if x2 ≤ x11 then (0 : Int32) else (1 : Int32)) = x5
  · have hc : c9_w x2 x11 x5 = true := decide_eq_true c
    rw [if_pos c] at e
    rw [hc]
    obtain ⟨i, ei, e⟩ := mm_bd1s e
    have hi' : ((8 : Int32) * x12) + x11 = i := sm_i ei
    have e := ck_x e
    have e := ck_x e
    rw [nm_eq] at e
    by_cases d : x6 = 0
    · rw [if_pos d, uf_X9_movesAll_326] at e
      have ho : o9_w x6 = false := by
        unfold o9_w
        rw [decide_eq_true d]
        rfl
      rw [ho]
      have e := ck_x e
      rw [nm_eq] at e
      have e := ck_x e
      rw [nm_eq] at e
      have e := ck_x e
      rw [nm_eq, nm_eq] at e
      have e := ck_x e
      rw [nm_eq, uf_X9_movesAll_402, nm_eq] at e
      rw [hi']
      exact ⟨_, _, _, e, ps_is _ _ _, ps_is _ _ _, ps_is _ _ _⟩
    · rw [if_neg d, uf_X9_movesAll_326] at e
      have ho : o9_w x6 = true := by
        unfold o9_w
        rw [decide_eq_false d]
        rfl
      rw [ho]
      have e := ck_x e
      rw [nm_eq] at e
      have e := ck_x e
      rw [nm_eq] at e
      have e := ck_x e
      rw [nm_eq, nm_eq] at e
      have e := ck_x e
      rw [nm_eq, uf_X9_movesAll_402, nm_eq] at e
      rw [hi']
      exact ⟨_, _, _, e, ps_is _ _ _, ps_is _ _ _, ps_is _ _ _⟩
  · have hc : c9_w x2 x11 x5 = false := decide_eq_false c
    rw [if_neg c] at e
    rw [hc]
    by_cases d : x6 = 0
    · rw [if_pos d] at e
      have ho : o9_w x6 = false := by
        unfold o9_w
        rw [decide_eq_true d]
        rfl
      rw [ho]
      have e := ck_x e
      rw [uf_X9_movesAll_389] at e
      have e := ck_x e
      rw [nm_eq, nm_eq] at e
      have e := ck_x e
      rw [nm_eq, uf_X9_movesAll_402, nm_eq] at e
      exact ⟨_, _, _, e, ps_is _ _ _, ps_is _ _ _, ps_id _ _⟩
    · rw [if_neg d] at e
      have ho : o9_w x6 = true := by
        unfold o9_w
        rw [decide_eq_false d]
        rfl
      rw [ho]
      have e := ck_x e
      rw [uf_X9_movesAll_389] at e
      have e := ck_x e
      rw [nm_eq, nm_eq] at e
      have e := ck_x e
      rw [nm_eq, uf_X9_movesAll_402, nm_eq] at e
      exact ⟨_, _, _, e, ps_is _ _ _, ps_is _ _ _, ps_id _ _⟩
theorem pm_217 {k : Int32 → Int32 → Int32 → Int32 → Int32 → Int32 → Int32 → Int32 → Int32 → Int32 → List Int32 → List Int32 → List Int32 → List Int32 → List Int32 → List Int32 → List Int32 → List Int32 → List Int32 → Option (List Int32 × List Int32 × List Int32 × List Int32 × List Int32 × List Int32 × List Int32 × List Int32 × List Int32)} {x1 x2 x4 x5 x6 x7 x8 x9 x11 ro co : Int32} {sR sC row col bel fac hi to PS : List Int32} {z : (List Int32 × List Int32 × List Int32 × List Int32 × List Int32 × List Int32 × List Int32 × List Int32 × List Int32)} {o : Nat} (ho : (((32 : Int32) * x1) + x9).toInt.toNat = o) (h11 : x11 = pl_w x4 (row.getD o 0) (col.getD o 0)) (e : fX9_movesAll_217 700 k x1 x2 x4 x5 x6 x7 x8 x9 (((32 : Int32) * x1) + x9) x11 (if x4 = 0 then (1 : Int32) else (0 : Int32)) x9 x1 ro co sR sC row col bel fac hi to PS = some z) : ∃ fac1 hi1 to1 : List Int32, k x1 x2 x4 x5 x6 x7 x8 (x9 + (1 : Int32)) ro co sR sC row col bel fac1 hi1 to1 PS = some z ∧ ∃ b' f' p' : Int32, mr_w PS x7 x4 x5 x6 x2 x8 (row.getD o 0) (col.getD o 0) (bel.getD o 0) (fac.getD o 0) b' f' p' ∧ ps_w hi hi1 x9.toInt.toNat b' ∧ ps_w to to1 x9.toInt.toNat p' ∧ ps_w fac fac1 o f' := by
  rw [uf_X9_movesAll_217] at e
  obtain ⟨a, ea, e⟩ := mm_bd1s e
  have ha := pl_e ea
  rw [pl_not, ho] at ha
  rw [nm_eq, wn_x, bs_1, i_64, i_64] at e
  have n0 : (0 : Int64).toInt = 0 := by decide
  rw [n0] at e
  unfold mr_w
  have hiw : iw_w x4 (row.getD o 0) (col.getD o 0) = ((8 : Int32) * a) + x11 := by
    unfold iw_w
    rw [← ha, ← h11]
  rw [hiw, ← ha, ← h11, ← ho]
  have key : ∀ t : Int32, fX9_movesAll_263 700 k x1 x2 x4 x5 x6 x7 x8 x9 (((32 : Int32) * x1) + x9) x11 a ((((2 : Int32) * x2) - (1 : Int32)) - x11) t ro co sR sC row col bel fac hi to PS = some z → t = th_w PS x7 ((((2 : Int32) * x2) - (1 : Int32)) - x11) a → ∃ fac1 hi1 to1 : List Int32, k x1 x2 x4 x5 x6 x7 x8 (x9 + (1 : Int32)) ro co sR sC row col bel fac1 hi1 to1 PS = some z ∧ ∃ b' f' p' : Int32, (b' = nb_w (c9_w x2 x11 x5) (o9_w x6) (PS.getD (((8 : Int32) * a) + x11).toInt.toNat 0) (th_w PS x7 ((((2 : Int32) * x2) - (1 : Int32)) - x11) a) (bel.getD (((32 : Int32) * x1) + x9).toInt.toNat 0) ∧ f' = nf_w (c9_w x2 x11 x5) (fac.getD (((32 : Int32) * x1) + x9).toInt.toNat 0) ∧ p' = np_w x2 x8 x11 (c9_w x2 x11 x5)) ∧ ps_w hi hi1 x9.toInt.toNat b' ∧ ps_w to to1 x9.toInt.toNat p' ∧ ps_w fac fac1 (((32 : Int32) * x1) + x9).toInt.toNat f' := by
    intro t e ht
    rw [uf_X9_movesAll_263] at e
    have e2 : fX9_movesAll_276 700 k x1 x2 x4 x5 x6 x7 x8 x9 (((32 : Int32) * x1) + x9) x11 a ((((2 : Int32) * x2) - (1 : Int32)) - x11) t (if x2 ≤ x11 then (0 : Int32) else (1 : Int32)) ro co sR sC row col bel fac hi to PS = some z := by
      by_cases g : x2 ≤ x11
      · rw [if_pos g] at e ⊢
        exact e
      · rw [if_neg g] at e ⊢
        exact e
    obtain ⟨fac1, hi1, to1, q, q1, q2, q3⟩ := pm_276 e2
    rw [ht] at q1
    exact ⟨fac1, hi1, to1, q, _, _, _, ⟨rfl, rfl, rfl⟩, q1, q2, q3⟩
  by_cases g : 0 ≤ ((((2 : Int32) * x2) - (1 : Int32)) - x11).toInt ∧ ((((2 : Int32) * x2) - (1 : Int32)) - x11).toInt ≤ (x7 - (1 : Int32)).toInt
  · rw [decide_eq_true g, if_neg (by decide)] at e
    obtain ⟨i, ei, e⟩ := mm_bd1s e
    have hi' : ((8 : Int32) * a) + ((((2 : Int32) * x2) - (1 : Int32)) - x11) = i := sm_i ei
    subst hi'
    refine key _ (ck_x e) ?_
    unfold th_w
    rw [if_pos g]
    rfl
  · rw [decide_eq_false g, if_pos rfl] at e
    refine key _ e ?_
    unfold th_w
    rw [if_neg g]
end
section
/-! Geometry: the reference's moves, the loops -/
theorem pm_174 {x1 x2 x4 x5 x6 x7 x8 ro co : Int32} {sR sC row col bel PS : List Int32} {z : (List Int32 × List Int32 × List Int32 × List Int32 × List Int32 × List Int32 × List Int32 × List Int32 × List Int32)} {m : Nat} (hm : (ro * co).toInt = m) (m32 : m ≤ 32) (L0 : 0 ≤ x1.toInt) (L5 : x1.toInt ≤ 5) : ∀ (n : Nat) (x9 : Int32) (fac hi to : List Int32), fX9_movesAll_174 700 n x1 x2 x4 x5 x6 x7 x8 x9 ro co sR sC row col bel fac hi to PS = some z → 0 ≤ x9.toInt → x9.toInt ≤ m → fac.length = 192 → hi.length = 32 → to.length = 32 → ∃ fac1 hi1 to1 : List Int32, (fac1.length = 192 ∧ hi1.length = 32 ∧ to1.length = 32) ∧ (∀ k : Nat, k < x9.toInt.toNat → hi1.getD k 0 = hi.getD k 0 ∧ to1.getD k 0 = to.getD k 0) ∧ (∀ j : Nat, j < 192 → (j < 32 * x1.toInt.toNat + x9.toInt.toNat ∨ 32 * x1.toInt.toNat + m ≤ j) → fac1.getD j 0 = fac.getD j 0) ∧ (∀ k : Nat, x9.toInt.toNat ≤ k → k < m → mr_w PS x7 x4 x5 x6 x2 x8 (row.getD (32 * x1.toInt.toNat + k) 0) (col.getD (32 * x1.toInt.toNat + k) 0) (bel.getD (32 * x1.toInt.toNat + k) 0) (fac.getD (32 * x1.toInt.toNat + k) 0) (hi1.getD k 0) (fac1.getD (32 * x1.toInt.toNat + k) 0) (to1.getD k 0)) ∧ fX9_movesAll_411 700 700 x1 x2 x4 x7 (0 : Int32) ro co sR sC row col bel fac1 hi1 to1 PS = some z := by
  have n1 : (1 : Int32).toInt = 1 := by decide
  intro n
  induction n with
  | zero =>
    intro x9 fac hi to e
    exact absurd e (by intro h; cases h)
  | succ n ih =>
    intro x9 fac hi to e p0 p1 l1 l2 l3
    rw [uf_X9_movesAll_174] at e
    obtain ⟨fl, ef, e⟩ := mm_bd1s e
    have hf : ro * co = fl := sm_i ef
    subst hf
    by_cases c : ro * co ≤ x9
    · rw [if_pos c] at e
      have d := i_le c
      exact ⟨fac, hi, to, ⟨l1, l2, l3⟩, fun k hk => ⟨rfl, rfl⟩, fun j _ _ => rfl, fun k k0 k1 => absurd k1 (by omega), e⟩
    · rw [if_neg c] at e
      have d := i_nle c
      rw [nm_eq] at e
      obtain ⟨a, ea, e⟩ := mm_bd1s e
      have ha := pl_e ea
      have e2 : fX9_movesAll_217 700 (fX9_movesAll_174 700 n) x1 x2 x4 x5 x6 x7 x8 x9 (((32 : Int32) * x1) + x9) a (if x4 = 0 then (1 : Int32) else (0 : Int32)) x9 x1 ro co sR sC row col bel fac hi to PS = some z := by
        by_cases g : x4 = 0
        · rw [if_pos g] at e ⊢
          exact e
        · rw [if_neg g] at e ⊢
          exact e
      have io := ix_e L0 L5 p0 (show x9.toInt ≤ 64 by omega)
      rw [io] at ha
      obtain ⟨fac1, hi1, to1, e3, b', f', p', hv, s1, s2, s3⟩ := pm_217 io ha e2
      generalize hy : x9 + (1 : Int32) = y at e3
      have ey := i_addE hy (by omega) (by omega)
      obtain ⟨fac2, hi2, to2, ⟨g1, g2, g3⟩, j1, j2, j3, j4⟩ := ih y fac1 hi1 to1 e3 (by omega) (by omega) (by rw [s3.1]; exact l1) (by rw [s1.1]; exact l2) (by rw [s2.1]; exact l3)
      refine ⟨fac2, hi2, to2, ⟨g1, g2, g3⟩, fun k hk => ?_, fun j hj hk => ?_, fun k k0 k1 => ?_, j4⟩
      · obtain ⟨q1, q2⟩ := j1 k (by omega)
        rw [q1, q2, ps_ne s1 (by omega) (by omega), ps_ne s2 (by omega) (by omega)]
        exact ⟨rfl, rfl⟩
      · rw [j2 j hj (by omega), ps_ne s3 (by omega) (by omega)]
      · by_cases g : x9.toInt.toNat = k
        · obtain ⟨q1, q2⟩ := j1 k (by omega)
          have q3 := j2 (32 * x1.toInt.toNat + k) (by omega) (by omega)
          rw [← g] at q1 q2 q3 ⊢
          rw [q1, q2, q3, ps_at s1 (by omega), ps_at s2 (by omega), ps_at s3 (by omega)]
          exact hv
        · have q := j3 k (by omega) k1
          rw [ps_ne s3 (by omega) (by omega)] at q
          exact q
def lf_w (x2 x7 : Int32) : Int32 := if x2 ≤ (x7 - x2) then x7 - x2 else x2
theorem pm_411 {x1 x2 x4 x7 ro co : Int32} {sR sC fac hi to PS : List Int32} {m : Nat} (hm : (ro * co).toInt = m) (m32 : m ≤ 32) (L0 : 0 ≤ x1.toInt) (L5 : x1.toInt ≤ 5) : ∀ (n : Nat) (x9 : Int32) (row col bel sR' sC' row' col' bel' fac' hi' to' PS' : List Int32), fX9_movesAll_411 700 n x1 x2 x4 x7 x9 ro co sR sC row col bel fac hi to PS = some (sR', sC', row', col', bel', fac', hi', to', PS') → 0 ≤ x9.toInt → x9.toInt ≤ m → row.length = 192 → col.length = 192 → bel.length = 192 → (fac' = fac ∧ sR' = (if x4 = 0 then mm_is sR x1 (lf_w x2 x7) else sR) ∧ sC' = (if x4 = 0 then sC else mm_is sC x1 (lf_w x2 x7)) ∧ row'.length = 192 ∧ col'.length = 192 ∧ bel'.length = 192 ∧ hi' = hi ∧ to' = to ∧ PS' = PS) ∧ (∀ j : Nat, j < 192 → (j < 32 * x1.toInt.toNat + x9.toInt.toNat ∨ 32 * x1.toInt.toNat + m ≤ j) → row'.getD j 0 = row.getD j 0 ∧ col'.getD j 0 = col.getD j 0 ∧ bel'.getD j 0 = bel.getD j 0) ∧ (∀ k : Nat, x9.toInt.toNat ≤ k → k < m → row'.getD (32 * x1.toInt.toNat + k) 0 = (if x4 = 0 then to.getD k 0 else row.getD (32 * x1.toInt.toNat + k) 0) ∧ col'.getD (32 * x1.toInt.toNat + k) 0 = (if x4 = 0 then col.getD (32 * x1.toInt.toNat + k) 0 else to.getD k 0) ∧ bel'.getD (32 * x1.toInt.toNat + k) 0 = hi.getD k 0) := by
  have n1 : (1 : Int32).toInt = 1 := by decide
  intro n
  induction n with
  | zero =>
    intro x9 row col bel sR' sC' row' col' bel' fac' hi' to' PS' e
    exact absurd e (by intro h; cases h)
  | succ n ih =>
    intro x9 row col bel sR' sC' row' col' bel' fac' hi' to' PS' e p0 p1 l1 l2 l3
    rw [uf_X9_movesAll_411] at e
    obtain ⟨fl, ef, e⟩ := mm_bd1s e
    have hf : ro * co = fl := sm_i ef
    subst hf
    by_cases c : ro * co ≤ x9
    · rw [if_pos c] at e
      have d := i_le c
      have e2 : fX9_movesAll_507 700 x1 x4 (lf_w x2 x7) ro co sR sC row col bel fac hi to PS = some (sR', sC', row', col', bel', fac', hi', to', PS') := by
        unfold lf_w
        by_cases g : x2 ≤ (x7 - x2)
        · rw [if_pos g] at e ⊢
          exact e
        · rw [if_neg g] at e ⊢
          exact e
      rw [uf_X9_movesAll_507] at e2
      by_cases g : x4 = 0
      · rw [if_pos g] at e2
        have e2 := ck_x e2
        rw [nm_eq] at e2
        apply mm_sub9 e2
        rw [if_pos g, if_pos g]
        exact ⟨⟨rfl, rfl, rfl, l1, l2, l3, rfl, rfl, rfl⟩, fun j _ _ => ⟨rfl, rfl, rfl⟩, fun k k0 k1 => absurd k1 (by omega)⟩
      · rw [if_neg g] at e2
        have e2 := ck_x e2
        rw [nm_eq] at e2
        apply mm_sub9 e2
        rw [if_neg g, if_neg g]
        exact ⟨⟨rfl, rfl, rfl, l1, l2, l3, rfl, rfl, rfl⟩, fun j _ _ => ⟨rfl, rfl, rfl⟩, fun k k0 k1 => absurd k1 (by omega)⟩
    · rw [if_neg c] at e
      have d := i_nle c
      have e := ck_x e
      rw [nm_eq] at e
      have e := ck_x e
      rw [nm_eq] at e
      have io := ix_e L0 L5 p0 (show x9.toInt ≤ 64 by omega)
      have key : ∀ (row1 col1 : List Int32), fX9_movesAll_485 700 (fX9_movesAll_411 700 n) x1 x2 x4 x7 x9 ro co sR sC row1 col1 (mm_is bel (((32 : Int32) * x1) + x9) (mm_ig hi x9)) fac hi to PS = some (sR', sC', row', col', bel', fac', hi', to', PS') → ps_w row row1 (32 * x1.toInt.toNat + x9.toInt.toNat) (if x4 = 0 then to.getD x9.toInt.toNat 0 else row.getD (32 * x1.toInt.toNat + x9.toInt.toNat) 0) → ps_w col col1 (32 * x1.toInt.toNat + x9.toInt.toNat) (if x4 = 0 then col.getD (32 * x1.toInt.toNat + x9.toInt.toNat) 0 else to.getD x9.toInt.toNat 0) → (fac' = fac ∧ sR' = (if x4 = 0 then mm_is sR x1 (lf_w x2 x7) else sR) ∧ sC' = (if x4 = 0 then sC else mm_is sC x1 (lf_w x2 x7)) ∧ row'.length = 192 ∧ col'.length = 192 ∧ bel'.length = 192 ∧ hi' = hi ∧ to' = to ∧ PS' = PS) ∧ (∀ j : Nat, j < 192 → (j < 32 * x1.toInt.toNat + x9.toInt.toNat ∨ 32 * x1.toInt.toNat + m ≤ j) → row'.getD j 0 = row.getD j 0 ∧ col'.getD j 0 = col.getD j 0 ∧ bel'.getD j 0 = bel.getD j 0) ∧ (∀ k : Nat, x9.toInt.toNat ≤ k → k < m → row'.getD (32 * x1.toInt.toNat + k) 0 = (if x4 = 0 then to.getD k 0 else row.getD (32 * x1.toInt.toNat + k) 0) ∧ col'.getD (32 * x1.toInt.toNat + k) 0 = (if x4 = 0 then col.getD (32 * x1.toInt.toNat + k) 0 else to.getD k 0) ∧ bel'.getD (32 * x1.toInt.toNat + k) 0 = hi.getD k 0) := by
        intro row1 col1 e s1 s2
        have s3 := ps_is bel (((32 : Int32) * x1) + x9) (mm_ig hi x9)
        rw [io] at s3
        rw [uf_X9_movesAll_485, nm_eq] at e
        generalize hy : x9 + (1 : Int32) = y at e
        have ey := i_addE hy (by omega) (by omega)
        obtain ⟨j1, j2, j3⟩ := ih y row1 col1 _ sR' sC' row' col' bel' fac' hi' to' PS' e (by omega) (by omega) (by rw [s1.1]; exact l1) (by rw [s2.1]; exact l2) (by rw [s3.1]; exact l3)
        refine ⟨j1, fun j hj hk => ?_, fun k k0 k1 => ?_⟩
        · obtain ⟨q1, q2, q3⟩ := j2 j hj (by omega)
          rw [q1, q2, q3, ps_ne s1 (by omega) (by omega), ps_ne s2 (by omega) (by omega), ps_ne s3 (by omega) (by omega)]
          exact ⟨rfl, rfl, rfl⟩
        · by_cases g : x9.toInt.toNat = k
          · obtain ⟨q1, q2, q3⟩ := j2 (32 * x1.toInt.toNat + k) (by omega) (by omega)
            rw [← g] at q1 q2 q3 ⊢
            rw [q1, q2, q3, ps_at s1 (by omega), ps_at s2 (by omega), ps_at s3 (by omega)]
            exact ⟨rfl, rfl, rfl⟩
          · obtain ⟨q1, q2, q3⟩ := j3 k (by omega) k1
            rw [q1, q2, q3, ps_ne s1 (by omega) (by omega), ps_ne s2 (by omega) (by omega)]
            exact ⟨rfl, rfl, rfl⟩
      by_cases g : x4 = 0
      · rw [if_pos g] at e
        have e := ck_x e
        rw [nm_eq] at e
        have e := ck_x e
        rw [nm_eq] at e
        refine key _ _ e ?_ ?_
        · rw [if_pos g, ← io]
          exact ps_is _ _ _
        · rw [if_pos g]
          exact ps_id _ _
      · rw [if_neg g] at e
        have e := ck_x e
        rw [nm_eq] at e
        have e := ck_x e
        rw [nm_eq] at e
        refine key _ _ e ?_ ?_
        · rw [if_neg g]
          exact ps_id _ _
        · rw [if_neg g, ← io]
          exact ps_is _ _ _
def b9_w (w : Int32) : Int32 := if (4 : Int32) ≤ w then (0 : Int32) else (1 : Int32)
def l9_w (w : Int32) : Int32 := if (2 : Int32) ≤ (mm_rem w (4 : Int32)) then (0 : Int32) else (1 : Int32)
def v9_w (w : Int32) : Int32 := if (mm_rem w (2 : Int32)) = 0 then (1 : Int32) else (0 : Int32)
def s9_w (x2 x5 x7 : Int32) : Int32 := if x5 = 0 then (if (0 : Int32) ≤ (((2 : Int32) * x2) - x7) then (0 : Int32) else (((2 : Int32) * x2) - x7)) else x2
theorem mo_e {x1 x2 w ro co : Int32} {sR sC row col bel fac hi to PS sR' sC' row' col' bel' fac' hi' to' PS' : List Int32} {m : Nat} (hm : (ro * co).toInt = m) (m32 : m ≤ 32) (L0 : 0 ≤ x1.toInt) (L5 : x1.toInt ≤ 5) (l1 : row.length = 192) (l2 : col.length = 192) (l3 : bel.length = 192) (l4 : fac.length = 192) (l5 : hi.length = 32) (l6 : to.length = 32) (l7 : PS.length = 64) (e : fX9_movesAll 700 x1 x2 w ro co sR sC row col bel fac hi to PS = some (sR', sC', row', col', bel', fac', hi', to', PS')) : ∃ (x7 : Int32) (PS1 hi1 to1 : List Int32), x7 = (if b9_w w = 0 then mm_ig sR x1 else mm_ig sC x1) ∧ PS1.length = 64 ∧ (∀ j : Nat, j < 64 → PS1.getD j 0 = kc_w (fun k => decide ((iw_w (b9_w w) (row.getD (32 * x1.toInt.toNat + k) 0) (col.getD (32 * x1.toInt.toNat + k) 0)).toInt.toNat = j)) 0 m) ∧ (sR' = (if b9_w w = 0 then mm_is sR x1 (lf_w x2 x7) else sR) ∧ sC' = (if b9_w w = 0 then sC else mm_is sC x1 (lf_w x2 x7))) ∧ (∀ j : Nat, j < 192 → (j < 32 * x1.toInt.toNat ∨ 32 * x1.toInt.toNat + m ≤ j) → row'.getD j 0 = row.getD j 0 ∧ col'.getD j 0 = col.getD j 0 ∧ bel'.getD j 0 = bel.getD j 0 ∧ fac'.getD j 0 = fac.getD j 0) ∧ (∀ k : Nat, k < m → mr_w PS1 x7 (b9_w w) (l9_w w) (v9_w w) x2 (s9_w x2 (l9_w w) x7) (row.getD (32 * x1.toInt.toNat + k) 0) (col.getD (32 * x1.toInt.toNat + k) 0) (bel.getD (32 * x1.toInt.toNat + k) 0) (fac.getD (32 * x1.toInt.toNat + k) 0) (bel'.getD (32 * x1.toInt.toNat + k) 0) (fac'.getD (32 * x1.toInt.toNat + k) 0) (to1.getD k 0) ∧ row'.getD (32 * x1.toInt.toNat + k) 0 = (if b9_w w = 0 then to1.getD k 0 else row.getD (32 * x1.toInt.toNat + k) 0) ∧ col'.getD (32 * x1.toInt.toNat + k) 0 = (if b9_w w = 0 then col.getD (32 * x1.toInt.toNat + k) 0 else to1.getD k 0)) ∧ (row'.length = 192 ∧ col'.length = 192 ∧ bel'.length = 192 ∧ fac'.length = 192 ∧ hi'.length = 32 ∧ to'.length = 32 ∧ PS'.length = 64) := by
  have n0 : (0 : Int32).toInt = 0 := by decide
  have e10 : fX9_movesAll_10 700 x1 x2 w (b9_w w) ro co sR sC row col bel fac hi to PS = some (sR', sC', row', col', bel', fac', hi', to', PS') := by
    rw [uf_X9_movesAll] at e
    unfold b9_w
    by_cases g : (4 : Int32) ≤ w
    · rw [if_pos g] at e ⊢
      exact e
    · rw [if_neg g] at e ⊢
      exact e
  generalize b9_w w = x4 at e10 ⊢
  have e24 : fX9_movesAll_24 700 x1 x2 w x4 (l9_w w) ro co sR sC row col bel fac hi to PS = some (sR', sC', row', col', bel', fac', hi', to', PS') := by
    rw [uf_X9_movesAll_10] at e10
    have e10 := ck_x e10
    unfold l9_w
    by_cases g : (2 : Int32) ≤ (mm_rem w (4 : Int32))
    · rw [if_pos g] at e10 ⊢
      exact e10
    · rw [if_neg g] at e10 ⊢
      exact e10
  generalize l9_w w = x5 at e24 ⊢
  have e37 : fX9_movesAll_37 700 x1 x2 x4 x5 (v9_w w) ro co sR sC row col bel fac hi to PS = some (sR', sC', row', col', bel', fac', hi', to', PS') := by
    rw [uf_X9_movesAll_24] at e24
    have e24 := ck_x e24
    unfold v9_w
    by_cases g : (mm_rem w (2 : Int32)) = 0
    · rw [if_pos g] at e24 ⊢
      exact e24
    · rw [if_neg g] at e24 ⊢
      exact e24
  generalize v9_w w = x6 at e37 ⊢
  have e59 : fX9_movesAll_59 700 x1 x2 x4 x5 x6 (if x4 = 0 then mm_ig sR x1 else mm_ig sC x1) ro co sR sC row col bel fac hi to PS = some (sR', sC', row', col', bel', fac', hi', to', PS') := by
    rw [uf_X9_movesAll_37] at e37
    by_cases g : x4 = 0
    · rw [if_pos g] at e37 ⊢
      exact ck_x e37
    · rw [if_neg g] at e37 ⊢
      exact ck_x e37
  refine ⟨(if x4 = 0 then mm_ig sR x1 else mm_ig sC x1), ?_⟩
  generalize (if x4 = 0 then mm_ig sR x1 else mm_ig sC x1) = x7 at e59 ⊢
  have e94 : fX9_movesAll_94 700 700 x1 x2 x4 x5 x6 x7 (s9_w x2 x5 x7) (0 : Int32) ro co sR sC row col bel fac hi to PS = some (sR', sC', row', col', bel', fac', hi', to', PS') := by
    rw [uf_X9_movesAll_59] at e59
    unfold s9_w
    by_cases g : x5 = 0
    · rw [if_pos g] at e59 ⊢
      by_cases h : (0 : Int32) ≤ (((2 : Int32) * x2) - x7)
      · rw [if_pos h] at e59 ⊢
        rw [uf_X9_movesAll_89] at e59
        exact e59
      · rw [if_neg h] at e59 ⊢
        rw [uf_X9_movesAll_89] at e59
        exact e59
    · rw [if_neg g] at e59 ⊢
      rw [uf_X9_movesAll_89] at e59
      exact e59
  obtain ⟨PS0, a1, a2, e118⟩ := pm_94 700 (0 : Int32) PS e94 (by omega) (by omega) l7 (fun k hk => absurd hk (by omega))
  obtain ⟨PS1, b1, b2, e174⟩ := pm_118 hm m32 L0 L5 700 (0 : Int32) PS0 e118 (by omega) (by omega) a1
  obtain ⟨fac1, hi1, to1, ⟨c1, c2, c3⟩, -, d2, d3, e411⟩ := pm_174 hm m32 L0 L5 700 (0 : Int32) fac hi to e174 (by omega) (by omega) l4 l5 l6
  obtain ⟨⟨f1, f2, f3, f4, f5, f6, f7, f8, f9⟩, g2, g3⟩ := pm_411 hm m32 L0 L5 700 (0 : Int32) row col bel sR' sC' row' col' bel' fac' hi' to' PS' e411 (by omega) (by omega) l1 l2 l3
  have z0 : (0 : Int32).toInt.toNat = 0 := by decide
  rw [z0] at b2 d2 d3 g2 g3
  subst f1 f7 f8 f9
  refine ⟨PS', hi', to', rfl, b1, fun j hj => ?_, ⟨f2, f3⟩, fun j hj hk => ?_, fun k hk => ?_, ⟨f4, f5, f6, c1, c2, c3, b1⟩⟩
  · rw [b2 j hj, a2 j hj, Int32.zero_add]
    rfl
  · obtain ⟨q1, q2, q3⟩ := g2 j hj (by omega)
    exact ⟨q1, q2, q3, d2 j hj (by omega)⟩
  · obtain ⟨q1, q2, q3⟩ := g3 k (by omega) hk
    have q := d3 k (by omega) hk
    rw [← q3] at q
    exact ⟨q, q1, q2⟩
end
section
/-! Geometry: piles, the turn whole -/
theorem fi_5 {v x3 : Int32} : ∀ (n : Nat) (x2 : Int32) (l l' : List Int32), fJ7_fill_53178_5 700 n v x2 x3 l = some l' → 0 ≤ x2.toInt → x3.toInt ≤ l.length → x3.toInt < 2147483647 → l'.length = l.length ∧ ∀ k : Nat, k < l.length → l'.getD k 0 = if x2.toInt.toNat ≤ k ∧ k < x3.toInt.toNat then v else l.getD k 0 := by
  have n1 : (1 : Int32).toInt = 1 := by decide
  intro n
  induction n with
  | zero =>
    intro x2 l l' e
    exact absurd e (by intro h; cases h)
  | succ n ih =>
    intro x2 l l' e p0 p1 p2
    rw [uf_J7_fill_53178_5] at e
    by_cases c : x3 ≤ x2
    · rw [if_pos c] at e
      have d := i_le c
      have e := sm_i e
      subst e
      exact ⟨rfl, fun k hk => by rw [if_neg (by omega)]⟩
    · rw [if_neg c] at e
      have d := i_nle c
      have e := ck_x e
      rw [nm_eq, nm_eq] at e
      generalize hy : x2 + (1 : Int32) = y at e
      have ey := i_addE hy (by omega) (by omega)
      obtain ⟨q1, q2⟩ := ih y _ l' e (by omega) (by rw [is_len]; exact p1) p2
      rw [is_len] at q1 q2
      refine ⟨q1, fun k hk => ?_⟩
      rw [q2 k hk, ge_is _ _ _ _ hk]
      by_cases g : x2.toInt.toNat = k
      · rw [if_neg (by omega), if_pos g, if_pos (by omega)]
      · rw [if_neg g]
        by_cases h : x2.toInt.toNat ≤ k ∧ k < x3.toInt.toNat
        · rw [if_pos (by omega), if_pos h]
        · rw [if_neg (by omega), if_neg h]
theorem fi_e {v : Int32} {l l' : List Int32} (e : fJ7_fill_53178 700 v l = some l') (h : l.length ≤ 1000) : l'.length = l.length ∧ ∀ k : Nat, k < l.length → l'.getD k 0 = v := by
  rw [uf_J7_fill_53178, nm_eq] at e
  have n0 : (0 : Int32).toInt = 0 := by decide
  have hn : (Int32.ofNat l.length).toInt = (l.length : Int) := Int32.toInt_ofNat_of_lt (by omega)
  obtain ⟨q1, q2⟩ := fi_5 700 (0 : Int32) l l' e (by omega) (by omega) (by omega)
  refine ⟨q1, fun k hk => ?_⟩
  rw [q2 k hk, if_pos (by omega)]
def it_w (r c : Int32) : Int32 := (r * (8 : Int32)) + c
theorem ms_10 {rows cols : Int32} {R C : List Int32} {m : Nat} (hm : (rows * cols).toInt = m) (m32 : m ≤ 32) : ∀ (n : Nat) (x1 : Int32) (T T' : List Int32), fX5_measurePiles_10 700 n x1 rows cols R C T = some T' → 0 ≤ x1.toInt → x1.toInt ≤ m → T'.length = T.length ∧ ∀ j : Nat, j < T.length → T'.getD j 0 = T.getD j 0 + kc_w (fun k => decide ((it_w (R.getD k 0) (C.getD k 0)).toInt.toNat = j)) x1.toInt.toNat (m - x1.toInt.toNat) := by
  have n1 : (1 : Int32).toInt = 1 := by decide
  intro n
  induction n with
  | zero =>
    intro x1 T T' e
    exact absurd e (by intro h; cases h)
  | succ n ih =>
    intro x1 T T' e p0 p1
    rw [uf_X5_measurePiles_10] at e
    obtain ⟨fl, ef, e⟩ := mm_bd1s e
    have hf : rows * cols = fl := sm_i ef
    subst hf
    by_cases c : rows * cols ≤ x1
    · rw [if_pos c] at e
      have d := i_le c
      have e := sm_i e
      subst e
      have q : m - x1.toInt.toNat = 0 := by omega
      refine ⟨rfl, fun j hj => ?_⟩
      rw [q]
      exact (Int32.add_zero _).symm
    · rw [if_neg c] at e
      have d := i_nle c
      have e := ck_x (ck_x (ck_x e))
      rw [nm_eq] at e
      have e := ck_x e
      rw [nm_eq, nm_eq] at e
      have hi' : it_w (R.getD x1.toInt.toNat 0) (C.getD x1.toInt.toNat 0) = ((mm_ig R x1) * (8 : Int32)) + (mm_ig C x1) := rfl
      rw [← hi'] at e
      generalize hi2 : it_w (R.getD x1.toInt.toNat 0) (C.getD x1.toInt.toNat 0) = i at e
      generalize hy : x1 + (1 : Int32) = y at e
      have ey := i_addE hy (by omega) (by omega)
      obtain ⟨q1, q2⟩ := ih y _ T' e (by omega) (by omega)
      rw [is_len] at q1 q2
      refine ⟨q1, fun j hj => ?_⟩
      rw [q2 j hj, ge_is _ _ _ _ hj]
      obtain ⟨u, hu⟩ : ∃ u : Nat, m - x1.toInt.toNat = u + 1 := ⟨m - x1.toInt.toNat - 1, by omega⟩
      have hu2 : m - y.toInt.toNat = u := by omega
      have hy2 : y.toInt.toNat = x1.toInt.toNat + 1 := by omega
      rw [hu, hu2, hy2]
      show _ = T.getD j 0 + ((if decide ((it_w (R.getD x1.toInt.toNat 0) (C.getD x1.toInt.toNat 0)).toInt.toNat = j) = true then (1 : Int32) else (0 : Int32)) + kc_w _ (x1.toInt.toNat + 1) u)
      rw [hi2]
      by_cases g : i.toInt.toNat = j
      · rw [if_pos g, decide_eq_true g, if_pos rfl, ge_ig, g, Int32.add_assoc]
      · rw [if_neg g, decide_eq_false g, if_neg (by decide), Int32.zero_add]
def s8_w (x1 x2 high wide : Int32) : Int32 := if csw x2 = false then mm_min (0 : Int32) (((2 : Int32) * x1) - (if (4 : Int32) ≤ x2 then high else wide)) else x1
theorem tn_e {x1 x2 rows cols high wide h' w' : Int32} {R C B F T R' C' B' F' T' : List Int32} {m : Nat} (hm : (rows * cols).toInt = m) (m32 : m ≤ 32) (l1 : R.length = 32) (l2 : C.length = 32) (l3 : B.length = 32) (l4 : F.length = 32) (l5 : T.length = 32) (e : fX5_turn 700 x1 x2 rows cols high wide R C B F T = some (h', w', R', C', B', F', T')) : ∃ T1 : List Int32, T1.length = 32 ∧ (∀ j : Nat, j < 32 → T1.getD j 0 = kc_w (fun k => decide ((it_w (R.getD k 0) (C.getD k 0)).toInt.toNat = j)) 0 m) ∧ (h' = (if (4 : Int32) ≤ x2 then mm_max x1 (high - x1) else high) ∧ w' = (if (4 : Int32) ≤ x2 then wide else mm_max x1 (wide - x1))) ∧ (∀ k : Nat, k < m → mv_w T1 high wide x2 x1 (s8_w x1 x2 high wide) (R.getD k 0) (C.getD k 0) (B.getD k 0) (F.getD k 0) (R'.getD k 0) (C'.getD k 0) (B'.getD k 0) (F'.getD k 0)) := by
  have n0 : (0 : Int32).toInt = 0 := by decide
  have z0 : (0 : Int32).toInt.toNat = 0 := by decide
  rw [uf_X5_turn] at e
  obtain ⟨T1, et, e⟩ := mm_bd1s e
  rw [uf_X5_measurePiles] at et
  obtain ⟨T0, e0, et⟩ := mm_bd1s et
  obtain ⟨a1, a2⟩ := fi_e e0 (by omega)
  obtain ⟨b1, b2⟩ := ms_10 hm m32 700 (0 : Int32) T0 T1 et (by omega) (by omega)
  obtain ⟨s, es, e⟩ := mm_bd1s e
  have hs := sp_e es
  obtain ⟨q, eq, e⟩ := mm_bd1s e
  have hq := cs_e eq
  subst hq
  have e2 : fX5_turn_35 700 700 x1 x2 (s8_w x1 x2 high wide) (0 : Int32) rows cols high wide R C B F T1 = some (h', w', R', C', B', F', T') := by
    unfold s8_w
    rw [← hs]
    by_cases g : csw x2 = false
    · rw [if_pos g] at e ⊢
      exact e
    · rw [if_neg g] at e ⊢
      exact e
  obtain ⟨j1, -, j3⟩ := tu_35 hm m32 700 (0 : Int32) R C B F h' w' R' C' B' F' T' e2 (by omega) (by omega) l1 l2 l3 l4
  rw [z0] at b2
  refine ⟨T1, by omega, fun j hj => ?_, j1, fun k hk => j3 k (by omega) hk⟩
  rw [b2 j (by omega), a2 j (by omega), Int32.zero_add]
  rfl
theorem it_i {r c : Int32} (r0 : 0 ≤ r.toInt) (r1 : r.toInt < 8) (c0 : 0 ≤ c.toInt) (c1 : c.toInt < 8) : (it_w r c).toInt = 8 * r.toInt + c.toInt := by
  unfold it_w
  generalize hz : r * (8 : Int32) = z
  have ez := i_mulRE (c := 8) (by decide) hz (by omega) (by omega)
  generalize hy : z + c = y
  have ey := i_addE hy (by omega) (by omega)
  omega
theorem i8_i {x a : Int32} (r0 : 0 ≤ x.toInt) (r1 : x.toInt < 8) (c0 : 0 ≤ a.toInt) (c1 : a.toInt < 8) : (((8 : Int32) * x) + a).toInt = 8 * x.toInt + a.toInt := by
  generalize hz : (8 : Int32) * x = z
  have ez := i_mulLE (c := 8) (by decide) hz (by omega) (by omega)
  generalize hy : z + a = y
  have ey := i_addE hy (by omega) (by omega)
  omega
theorem wy_8 : ∀ k : Fin 8, l9_w (Int32.ofNat k.val) = mm_b (csw (Int32.ofNat k.val)) ∧ o9_w (v9_w (Int32.ofNat k.val)) = ovw (Int32.ofNat k.val) := by decide +kernel
theorem on_x {u : Int32} (h0 : 0 ≤ u.toInt) (h1 : u.toInt < 128) : Int32.ofNat u.toInt.toNat = u := by
  apply Int32.toInt_inj.mp
  rw [Int32.toInt_ofNat_of_lt (by omega)]
  omega
theorem wy_e {w : Int32} (h0 : 0 ≤ w.toInt) (h1 : w.toInt ≤ 7) : l9_w w = mm_b (csw w) ∧ o9_w (v9_w w) = ovw w := by
  have q := wy_8 ⟨w.toInt.toNat, by omega⟩
  rw [on_x h0 (by omega)] at q
  exact q
theorem b9_p {w : Int32} (h : (4 : Int32) ≤ w) : b9_w w = 0 := by
  unfold b9_w
  rw [if_pos h]
theorem b9_n {w : Int32} (h : ¬ (4 : Int32) ≤ w) : b9_w w = 1 := by
  unfold b9_w
  rw [if_neg h]
theorem al_p (w r c : Int32) : pl_w (b9_w w) r c = al_w w r c := by
  unfold pl_w al_w
  by_cases h : (4 : Int32) ≤ w
  · rw [b9_p h, if_pos rfl, if_pos h]
  · rw [b9_n h, if_neg (by decide), if_neg h]
theorem ac_p (w r c : Int32) : pc_w (b9_w w) r c = ac_w w r c := by
  unfold pc_w ac_w
  by_cases h : (4 : Int32) ≤ w
  · rw [b9_p h, if_pos rfl, if_pos h]
  · rw [b9_n h, if_neg (by decide), if_neg h]
/-- the piles' heights, told both ways -/
theorem hq_e {w a x : Int32} {R C T1 PS1 : List Int32} {m : Nat} (rr : ∀ k : Nat, k < m → 0 ≤ (R.getD k 0).toInt ∧ (R.getD k 0).toInt < 4) (rc : ∀ k : Nat, k < m → 0 ≤ (C.getD k 0).toInt ∧ (C.getD k 0).toInt < 8) (t1 : ∀ j : Nat, j < 32 → T1.getD j 0 = kc_w (fun k => decide ((it_w (R.getD k 0) (C.getD k 0)).toInt.toNat = j)) 0 m) (t2 : ∀ j : Nat, j < 64 → PS1.getD j 0 = kc_w (fun k => decide ((iw_w (b9_w w) (R.getD k 0) (C.getD k 0)).toInt.toNat = j)) 0 m) (a0 : 0 ≤ a.toInt) (a1 : a.toInt < (if (4 : Int32) ≤ w then (4 : Int) else (8 : Int))) (x0 : 0 ≤ x.toInt) (x1 : x.toInt < (if (4 : Int32) ≤ w then (8 : Int) else (4 : Int))) : (if (4 : Int32) ≤ w then mm_ig T1 ((a * (8 : Int32)) + x) else mm_ig T1 ((x * (8 : Int32)) + a)) = PS1.getD (((8 : Int32) * x) + a).toInt.toNat 0 := by
  by_cases h : (4 : Int32) ≤ w
  · rw [if_pos h] at a1 x1 ⊢
    have e1 := it_i a0 (by omega) x0 x1
    have e2 := i8_i x0 x1 a0 (by omega)
    show T1.getD (it_w a x).toInt.toNat 0 = _
    rw [t1 _ (by omega), t2 _ (by omega)]
    refine kc_c m 0 (fun k k0 k1 => ?_)
    obtain ⟨u0, u1⟩ := rr k (by omega)
    obtain ⟨v0, v1⟩ := rc k (by omega)
    have e3 := it_i u0 (by omega) v0 v1
    have e4 := i8_i v0 v1 u0 (by omega)
    have e5 : iw_w (b9_w w) (R.getD k 0) (C.getD k 0) = ((8 : Int32) * C.getD k 0) + R.getD k 0 := by
      unfold iw_w
      rw [b9_p h]
      rfl
    rw [e5]
    exact decide_eq_decide.mpr (by omega)
  · rw [if_neg h] at a1 x1 ⊢
    have e1 := it_i x0 (by omega) a0 a1
    have e2 := i8_i x0 (by omega) a0 a1
    show T1.getD (it_w x a).toInt.toNat 0 = _
    rw [t1 _ (by omega), t2 _ (by omega)]
    refine kc_c m 0 (fun k k0 k1 => ?_)
    obtain ⟨u0, u1⟩ := rr k (by omega)
    obtain ⟨v0, v1⟩ := rc k (by omega)
    have e3 := it_i u0 (by omega) v0 v1
    have e4 := i8_i u0 (by omega) v0 v1
    have e5 : iw_w (b9_w w) (R.getD k 0) (C.getD k 0) = ((8 : Int32) * R.getD k 0) + C.getD k 0 := by
      unfold iw_w
      rw [b9_n h]
      rfl
    rw [e5]
    exact decide_eq_decide.mpr (by omega)
end
section
/-! Geometry: turn and moves alike -/
theorem th_e {w y x high wide : Int32} {R C T1 PS1 : List Int32} {m : Nat} (hh : 1 ≤ high.toInt ∧ high.toInt ≤ 4) (hw : 1 ≤ wide.toInt ∧ wide.toInt ≤ 8) (rr : ∀ k : Nat, k < m → 0 ≤ (R.getD k 0).toInt ∧ (R.getD k 0).toInt < 4) (rc : ∀ k : Nat, k < m → 0 ≤ (C.getD k 0).toInt ∧ (C.getD k 0).toInt < 8) (t1 : ∀ j : Nat, j < 32 → T1.getD j 0 = kc_w (fun k => decide ((it_w (R.getD k 0) (C.getD k 0)).toInt.toNat = j)) 0 m) (t2 : ∀ j : Nat, j < 64 → PS1.getD j 0 = kc_w (fun k => decide ((iw_w (b9_w w) (R.getD k 0) (C.getD k 0)).toInt.toNat = j)) 0 m) (x0 : 0 ≤ x.toInt) (x1 : x.toInt < (if (4 : Int32) ≤ w then (8 : Int) else (4 : Int))) : th_w PS1 (if (4 : Int32) ≤ w then high else wide) y x = ta_w T1 high wide w y x := by
  have n0 : (0 : Int32).toInt = 0 := by decide
  have n1 : (1 : Int32).toInt = 1 := by decide
  obtain ⟨sp, hsp, s0, s1⟩ : ∃ sp : Int32, (if (4 : Int32) ≤ w then high else wide) = sp ∧ 1 ≤ sp.toInt ∧ sp.toInt ≤ (if (4 : Int32) ≤ w then (4 : Int) else (8 : Int)) := by
    by_cases h : (4 : Int32) ≤ w
    · rw [if_pos h, if_pos h]
      exact ⟨high, rfl, hh.1, hh.2⟩
    · rw [if_neg h, if_neg h]
      exact ⟨wide, rfl, hw.1, hw.2⟩
  have s2 : sp.toInt ≤ 8 := by
    by_cases h : (4 : Int32) ≤ w
    · rw [if_pos h] at s1
      omega
    · rw [if_neg h] at s1
      omega
  unfold th_w ta_w
  rw [hsp]
  generalize hz : sp - (1 : Int32) = z
  have ez := i_subE hz (by omega) (by omega)
  by_cases c1 : y < 0
  · have d1 := i_lt c1
    rw [if_pos c1, if_neg (by omega)]
  · have d1 := i_nlt c1
    rw [if_neg c1]
    by_cases c2 : y < sp
    · have d2 := i_lt c2
      rw [if_pos c2, if_pos (by omega)]
      exact (hq_e rr rc t1 t2 (by omega) (by omega) x0 x1).symm
    · have d2 := i_nlt c2
      rw [if_neg c2, if_neg (by omega)]
theorem st_e {x1 w high wide x7 : Int32} (hx : x7 = (if (4 : Int32) ≤ w then high else wide)) (hl : l9_w w = mm_b (csw w)) : s9_w x1 (l9_w w) x7 = s8_w x1 w high wide := by
  unfold s9_w s8_w
  rw [hl, ← hx]
  cases csw w with
  | false =>
    rw [if_pos (show mm_b false = 0 by decide), if_pos (rfl : false = false)]
    unfold mm_min
    by_cases c : ((2 : Int32) * x1) - x7 < (0 : Int32)
    · have d := i_lt c
      rw [if_pos c, if_neg (fun h => absurd (i_le h) (by omega))]
    · rw [if_neg c, if_pos (Int32.not_lt.mp c)]
  | true =>
    rw [if_neg (show ¬ mm_b true = 0 by decide), if_neg (show ¬ true = false by decide)]
theorem lf_e (x1 x7 : Int32) : lf_w x1 x7 = mm_max x1 (x7 - x1) := by
  unfold lf_w mm_max
  by_cases c : x1 < x7 - x1
  · rw [if_pos c, if_pos (Int32.le_of_lt c)]
  · rw [if_neg c]
    by_cases d : x1 ≤ x7 - x1
    · rw [if_pos d]
      exact Int32.le_antisymm (Int32.not_lt.mp c) d
    · rw [if_neg d]
theorem ig_p (l : List Int32) (i v : Int32) (h0 : 0 ≤ i.toInt) (h1 : i.toInt < l.length) : mm_ig (mm_is l i v) i = v := by
  rw [ge_ig, ge_is _ _ _ _ (by omega), if_pos rfl]
/-- the geometry of a level alike -/
def gx_w (m o : Nat) (R C B F row col bel fac : List Int32) : Prop := ∀ k : Nat, k < m → row.getD (o + k) 0 = R.getD k 0 ∧ col.getD (o + k) 0 = C.getD k 0 ∧ bel.getD (o + k) 0 = B.getD k 0 ∧ fac.getD (o + k) 0 = F.getD k 0
/-- rows of a level kept elsewhere -/
def fq_w (o n : Nat) (row col bel fac row' col' bel' fac' : List Int32) : Prop := ∀ j : Nat, j < 192 → (j < o ∨ o + n ≤ j) → row'.getD j 0 = row.getD j 0 ∧ col'.getD j 0 = col.getD j 0 ∧ bel'.getD j 0 = bel.getD j 0 ∧ fac'.getD j 0 = fac.getD j 0
theorem tr_e {lv ln w rows cols high wide h' w' : Int32} {R C B F T R' C' B' F' T' sR sC row col bel fac hi to PS sR' sC' row' col' bel' fac' hi' to' PS' : List Int32} {m : Nat} (hm : (rows * cols).toInt = m) (m32 : m ≤ 32) (L0 : 0 ≤ lv.toInt) (L5 : lv.toInt ≤ 5) (w0 : 0 ≤ w.toInt) (w7 : w.toInt ≤ 7) (l1 : R.length = 32) (l2 : C.length = 32) (l3 : B.length = 32) (l4 : F.length = 32) (l5 : T.length = 32) (k1 : row.length = 192) (k2 : col.length = 192) (k3 : bel.length = 192) (k4 : fac.length = 192) (k5 : hi.length = 32) (k6 : to.length = 32) (k7 : PS.length = 64) (k8 : sR.length = 6) (k9 : sC.length = 6) (hh : 1 ≤ high.toInt ∧ high.toInt ≤ 4) (hw : 1 ≤ wide.toInt ∧ wide.toInt ≤ 8) (rr : ∀ k : Nat, k < m → 0 ≤ (R.getD k 0).toInt ∧ (R.getD k 0).toInt < high.toInt) (rc : ∀ k : Nat, k < m → 0 ≤ (C.getD k 0).toInt ∧ (C.getD k 0).toInt < wide.toInt) (g1 : mm_ig sR lv = high) (g2 : mm_ig sC lv = wide) (g3 : gx_w m (32 * lv.toInt.toNat) R C B F row col bel fac) (e8 : fX5_turn 700 ln w rows cols high wide R C B F T = some (h', w', R', C', B', F', T')) (e9 : fX9_movesAll 700 lv ln w rows cols sR sC row col bel fac hi to PS = some (sR', sC', row', col', bel', fac', hi', to', PS')) : mm_ig sR' lv = h' ∧ mm_ig sC' lv = w' ∧ gx_w m (32 * lv.toInt.toNat) R' C' B' F' row' col' bel' fac' ∧ fq_w (32 * lv.toInt.toNat) m row col bel fac row' col' bel' fac' ∧ (∀ j : Nat, j < 6 → j ≠ lv.toInt.toNat → sR'.getD j 0 = sR.getD j 0 ∧ sC'.getD j 0 = sC.getD j 0) ∧ (row'.length = 192 ∧ col'.length = 192 ∧ bel'.length = 192 ∧ fac'.length = 192 ∧ hi'.length = 32 ∧ to'.length = 32 ∧ PS'.length = 64 ∧ sR'.length = 6 ∧ sC'.length = 6) := by
  obtain ⟨T1, c1, c2, ⟨c3, c4⟩, c5⟩ := tn_e hm m32 l1 l2 l3 l4 l5 e8
  obtain ⟨x7, PS1, hi1, to1, d1, d2, d3, ⟨d4, d5⟩, d6, d7, d8⟩ := mo_e hm m32 L0 L5 k1 k2 k3 k4 k5 k6 k7 e9
  obtain ⟨wy1, wy2⟩ := wy_e w0 w7
  have hx7 : x7 = (if (4 : Int32) ≤ w then high else wide) := by
    rw [d1]
    by_cases h : (4 : Int32) ≤ w
    · rw [b9_p h, if_pos rfl, if_pos h, g1]
    · rw [b9_n h, if_neg (by decide), if_neg h, g2]
  have t2 : ∀ j : Nat, j < 64 → PS1.getD j 0 = kc_w (fun k => decide ((iw_w (b9_w w) (R.getD k 0) (C.getD k 0)).toInt.toNat = j)) 0 m := by
    intro j hj
    rw [d3 j hj]
    refine kc_c m 0 (fun k k0 k1 => ?_)
    show decide ((iw_w (b9_w w) (row.getD (32 * lv.toInt.toNat + k) 0) (col.getD (32 * lv.toInt.toNat + k) 0)).toInt.toNat = j) = decide ((iw_w (b9_w w) (R.getD k 0) (C.getD k 0)).toInt.toNat = j)
    rw [(g3 k (by omega)).1, (g3 k (by omega)).2.1]
  have rr4 : ∀ k : Nat, k < m → 0 ≤ (R.getD k 0).toInt ∧ (R.getD k 0).toInt < 4 := fun k hk => ⟨(rr k hk).1, by have := (rr k hk).2; omega⟩
  have rc8 : ∀ k : Nat, k < m → 0 ≤ (C.getD k 0).toInt ∧ (C.getD k 0).toInt < 8 := fun k hk => ⟨(rc k hk).1, by have := (rc k hk).2; omega⟩
  have hs := st_e (x1 := ln) hx7 wy1
  have hsr : mm_ig sR' lv = h' := by
    rw [c3, d4]
    by_cases h : (4 : Int32) ≤ w
    · rw [b9_p h, if_pos rfl, if_pos h, ig_p _ _ _ L0 (by omega), lf_e, hx7, if_pos h]
    · rw [b9_n h, if_neg (by decide), if_neg h, g1]
  have hsc : mm_ig sC' lv = w' := by
    rw [c4, d5]
    by_cases h : (4 : Int32) ≤ w
    · rw [b9_p h, if_pos rfl, if_pos h, g2]
    · rw [b9_n h, if_neg (by decide), if_neg h, ig_p _ _ _ L0 (by omega), lf_e, hx7, if_neg h]
  have hle : sR'.length = 6 ∧ sC'.length = 6 := by
    rw [d4, d5]
    by_cases h : b9_w w = 0
    · rw [if_pos h, if_pos h, is_len]
      exact ⟨k8, k9⟩
    · rw [if_neg h, if_neg h, is_len]
      exact ⟨k8, k9⟩
  obtain ⟨v1, v2, v3, v4, v5, v6, v7⟩ := d8
  refine ⟨hsr, hsc, fun k hk => ?_, fun j hj hk => d6 j hj hk, fun j hj hn => ?_, ⟨v1, v2, v3, v4, v5, v6, v7, hle.1, hle.2⟩⟩
  clear v1 v2 v3 v4 v5 v6 v7
  · obtain ⟨q1, q2, q3, q4⟩ := g3 k hk
    obtain ⟨v1, v2, v3, v4⟩ := c5 k hk
    obtain ⟨⟨u1, u2, u3⟩, u4, u5⟩ := d7 k hk
    rw [q1, q2] at u1 u2 u3
    rw [q3] at u1
    rw [q4] at u2
    rw [q1] at u4
    rw [q2] at u5
    have a0 := rr k hk
    have b0 := rc k hk
    generalize R.getD k 0 = r at *
    generalize C.getD k 0 = c at *
    generalize B.getD k 0 = b at *
    generalize F.getD k 0 = f at *
    have hco : c9_w ln (pl_w (b9_w w) r c) (l9_w w) = cm_w ln (al_w w r c) (csw w) := by
      unfold c9_w cm_w
      rw [wy1, al_p]
    have xr : 0 ≤ (ac_w w r c).toInt ∧ (ac_w w r c).toInt < (if (4 : Int32) ≤ w then (8 : Int) else (4 : Int)) := by
      unfold ac_w
      by_cases h : (4 : Int32) ≤ w
      · rw [if_pos h, if_pos h]
        omega
      · rw [if_neg h, if_neg h]
        omega
    have hme : ∀ y : Int32, th_w PS1 x7 y (ac_w w r c) = ta_w T1 high wide w y (ac_w w r c) := by
      intro y
      rw [hx7]
      exact th_e hh hw rr4 rc8 c2 t2 xr.1 xr.2
    have how : PS1.getD (iw_w (b9_w w) r c).toInt.toNat 0 = ta_w T1 high wide w (al_w w r c) (ac_w w r c) := by
      rw [← hme]
      unfold th_w
      have n1 : (1 : Int32).toInt = 1 := by decide
      have ar : 0 ≤ (al_w w r c).toInt ∧ (al_w w r c).toInt ≤ (x7 - (1 : Int32)).toInt := by
        generalize hz : x7 - (1 : Int32) = z
        by_cases h : (4 : Int32) ≤ w
        · rw [if_pos h] at hx7
          have ez := i_subE hz (by rw [hx7]; omega) (by rw [hx7]; omega)
          unfold al_w
          rw [if_pos h]
          rw [hx7] at ez
          omega
        · rw [if_neg h] at hx7
          have ez := i_subE hz (by rw [hx7]; omega) (by rw [hx7]; omega)
          unfold al_w
          rw [if_neg h]
          rw [hx7] at ez
          omega
      rw [if_pos ar]
      unfold iw_w
      rw [al_p, ac_p]
    rw [hco, how, wy2, al_p, ac_p, hme] at u1
    rw [hco] at u2
    rw [hco, al_p, hs] at u3
    refine ⟨?_, ?_, ?_, ?_⟩
    · rw [u4, v3]
      by_cases h : (4 : Int32) ≤ w
      · rw [b9_p h, if_pos rfl, if_pos h, u3]
      · rw [b9_n h, if_neg (by decide), if_neg h]
    · rw [u5, v4]
      by_cases h : (4 : Int32) ≤ w
      · rw [b9_p h, if_pos rfl, if_pos h]
      · rw [b9_n h, if_neg (by decide), if_neg h, u3]
    · rw [u1, v1]
    · rw [u2, v2]
  · rw [d4, d5]
    by_cases h : b9_w w = 0
    · rw [if_pos h, if_pos h, ge_is _ _ _ _ (by omega), if_neg (by omega)]
      exact ⟨rfl, rfl⟩
    · rw [if_neg h, if_neg h, ge_is _ _ _ _ (by omega), if_neg (by omega)]
      exact ⟨rfl, rfl⟩
end
section
/-! Geometry: laid flat -/
theorem lo_30 {k : Int32 → Int32 → Int32 → Int32 → Int32 → Int32 → List Int32 → List Int32 → List Int32 → List Int32 → Option (Int32 × Int32 × List Int32 × List Int32 × List Int32 × List Int32)} {x2 rows cols hg wd : Int32} {z : Int32 × Int32 × List Int32 × List Int32 × List Int32 × List Int32} {b : Nat} (c0 : 1 ≤ cols.toInt) (c8 : cols.toInt ≤ 8) (hb : (b : Int) + cols.toInt ≤ 32) : ∀ (n : Nat) (x1 x3 : Int32) (R C B F : List Int32), fX5_layOut_30 700 k n x1 x2 x3 rows cols hg wd R C B F = some z → 0 ≤ x3.toInt → x3.toInt ≤ cols.toInt → x1.toInt = b + x3.toInt → R.length = 32 → C.length = 32 → B.length = 32 → F.length = 32 → ∃ (y : Int32) (R1 C1 B1 F1 : List Int32), y.toInt = b + cols.toInt ∧ k y (x2 + (1 : Int32)) rows cols hg wd R1 C1 B1 F1 = some z ∧ (R1.length = 32 ∧ C1.length = 32 ∧ B1.length = 32 ∧ F1.length = 32) ∧ (∀ j : Nat, j < x1.toInt.toNat → R1.getD j 0 = R.getD j 0 ∧ C1.getD j 0 = C.getD j 0 ∧ B1.getD j 0 = B.getD j 0 ∧ F1.getD j 0 = F.getD j 0) ∧ (∀ j : Nat, x1.toInt.toNat ≤ j → (j : Int) < b + cols.toInt → R1.getD j 0 = x2 ∧ (C1.getD j 0).toInt = j - b ∧ B1.getD j 0 = 0 ∧ F1.getD j 0 = 0) := by
  have n1 : (1 : Int32).toInt = 1 := by decide
  intro n
  induction n with
  | zero =>
    intro x1 x3 R C B F e
    exact absurd e (by intro h; cases h)
  | succ n ih =>
    intro x1 x3 R C B F e p0 p1 hx l1 l2 l3 l4
    rw [uf_X5_layOut_30] at e
    by_cases c : cols ≤ x3
    · rw [if_pos c, nm_eq] at e
      have d := i_le c
      exact ⟨x1, R, C, B, F, by omega, e, ⟨l1, l2, l3, l4⟩, fun j _ => ⟨rfl, rfl, rfl, rfl⟩, fun j j0 j1 => absurd j1 (by omega)⟩
    · rw [if_neg c] at e
      have d := i_nle c
      have e := ck_x e
      rw [nm_eq] at e
      have e := ck_x e
      rw [nm_eq] at e
      have e := ck_x e
      rw [nm_eq] at e
      have e := ck_x e
      rw [nm_eq, nm_eq, nm_eq] at e
      have s1 := ps_is R x1 x2
      have s2 := ps_is C x1 x3
      have s3 := ps_is B x1 (0 : Int32)
      have s4 := ps_is F x1 (0 : Int32)
      generalize hy : x1 + (1 : Int32) = y at e
      have ey := i_addE hy (by omega) (by omega)
      generalize hv : x3 + (1 : Int32) = v at e
      have ev := i_addE hv (by omega) (by omega)
      obtain ⟨y2, R1, C1, B1, F1, q0, q1, q2, q3, q4⟩ := ih y v _ _ _ _ e (by omega) (by omega) (by omega) (by rw [is_len]; exact l1) (by rw [is_len]; exact l2) (by rw [is_len]; exact l3) (by rw [is_len]; exact l4)
      refine ⟨y2, R1, C1, B1, F1, q0, q1, q2, fun j hj => ?_, fun j j0 j1 => ?_⟩
      · obtain ⟨u1, u2, u3, u4⟩ := q3 j (by omega)
        rw [u1, u2, u3, u4, ps_ne s1 (by omega) (by omega), ps_ne s2 (by omega) (by omega), ps_ne s3 (by omega) (by omega), ps_ne s4 (by omega) (by omega)]
        exact ⟨rfl, rfl, rfl, rfl⟩
      · by_cases g : x1.toInt.toNat = j
        · obtain ⟨u1, u2, u3, u4⟩ := q3 j (by omega)
          rw [← g] at u1 u2 u3 u4 ⊢
          rw [u1, u2, u3, u4, ps_at s1 (by omega), ps_at s2 (by omega), ps_at s3 (by omega), ps_at s4 (by omega)]
          exact ⟨rfl, by omega, rfl, rfl⟩
        · exact q4 j (by omega) j1
theorem dv_u {a q r c : Int} (h : 0 < c) (e : a = q * c + r) (r0 : 0 ≤ r) (r1 : r < c) : a / c = q ∧ a % c = r := by
  refine (Int.ediv_emod_unique h).mpr ⟨?_, r0, r1⟩
  rw [e, Int.mul_comm q c, Int.add_comm]
/-- what a sheet laid flat is -/
def fl_w (m : Nat) (c : Int) (o : Nat) (R C B F : List Int32) : Prop := ∀ j : Nat, j < m → (R.getD (o + j) 0).toInt = (j : Int) / c ∧ (C.getD (o + j) 0).toInt = (j : Int) % c ∧ B.getD (o + j) 0 = 0 ∧ F.getD (o + j) 0 = 0
theorem lo_20 {rows cols hg wd : Int32} {m : Nat} (hm : rows.toInt * cols.toInt = m) (m32 : m ≤ 32) (r0 : 1 ≤ rows.toInt) (r4 : rows.toInt ≤ 4) (c0 : 1 ≤ cols.toInt) (c8 : cols.toInt ≤ 8) : ∀ (n : Nat) (x1 x2 : Int32) (R C B F : List Int32) (h' w' : Int32) (R' C' B' F' : List Int32), fX5_layOut_20 700 n x1 x2 rows cols hg wd R C B F = some (h', w', R', C', B', F') → 0 ≤ x2.toInt → x2.toInt ≤ rows.toInt → x1.toInt = x2.toInt * cols.toInt → R.length = 32 → C.length = 32 → B.length = 32 → F.length = 32 → (h' = hg ∧ w' = wd) ∧ (∀ j : Nat, j < x1.toInt.toNat → R'.getD j 0 = R.getD j 0 ∧ C'.getD j 0 = C.getD j 0 ∧ B'.getD j 0 = B.getD j 0 ∧ F'.getD j 0 = F.getD j 0) ∧ (∀ j : Nat, x1.toInt.toNat ≤ j → j < m → (R'.getD j 0).toInt = (j : Int) / cols.toInt ∧ (C'.getD j 0).toInt = (j : Int) % cols.toInt ∧ B'.getD j 0 = 0 ∧ F'.getD j 0 = 0) := by
  have n0 : (0 : Int32).toInt = 0 := by decide
  have n1 : (1 : Int32).toInt = 1 := by decide
  intro n
  induction n with
  | zero =>
    intro x1 x2 R C B F h' w' R' C' B' F' e
    exact absurd e (by intro h; cases h)
  | succ n ih =>
    intro x1 x2 R C B F h' w' R' C' B' F' e p0 p1 hx l1 l2 l3 l4
    rw [uf_X5_layOut_20] at e
    by_cases c : rows ≤ x2
    · rw [if_pos c] at e
      have d := i_le c
      have e := sm_i e
      injection e with e1 e
      injection e with e2 e
      injection e with e3 e
      injection e with e4 e
      injection e with e5 e6
      subst e1 e2 e3 e4 e5 e6
      have hr : x2.toInt = rows.toInt := by omega
      rw [hr, hm] at hx
      exact ⟨⟨rfl, rfl⟩, fun j _ => ⟨rfl, rfl, rfl, rfl⟩, fun j j0 j1 => absurd j1 (by omega)⟩
    · rw [if_neg c] at e
      have d := i_nle c
      have hb0 : 0 ≤ x2.toInt * cols.toInt := Int.mul_nonneg p0 (by omega)
      have hb1 : (x2.toInt + 1) * cols.toInt ≤ rows.toInt * cols.toInt := Int.mul_le_mul_of_nonneg_right (by omega) (by omega)
      rw [Int.add_mul, Int.one_mul, hm] at hb1
      obtain ⟨b, hb⟩ : ∃ b : Nat, (b : Int) = x2.toInt * cols.toInt := ⟨(x2.toInt * cols.toInt).toNat, by omega⟩
      rw [← hb] at hb0 hb1 hx
      obtain ⟨y, R1, C1, B1, F1, q0, q1, ⟨g1, g2, g3, g4⟩, q3, q4⟩ := lo_30 (b := b) c0 c8 (by omega) 700 x1 (0 : Int32) R C B F e (by omega) (by omega) (by omega) l1 l2 l3 l4
      generalize hv : x2 + (1 : Int32) = v at q1
      have ev := i_addE hv (by omega) (by omega)
      have hv2 : y.toInt = v.toInt * cols.toInt := by rw [ev, n1, Int.add_mul, Int.one_mul, ← hb]; exact q0
      obtain ⟨j1, j2, j3⟩ := ih y v R1 C1 B1 F1 h' w' R' C' B' F' q1 (by omega) (by omega) hv2 g1 g2 g3 g4
      refine ⟨j1, fun j hj => ?_, fun j h0 h1 => ?_⟩
      · obtain ⟨u1, u2, u3, u4⟩ := j2 j (by omega)
        obtain ⟨v1, v2, v3, v4⟩ := q3 j hj
        rw [u1, u2, u3, u4, v1, v2, v3, v4]
        exact ⟨rfl, rfl, rfl, rfl⟩
      · by_cases g : (j : Int) < b + cols.toInt
        · obtain ⟨u1, u2, u3, u4⟩ := j2 j (by omega)
          obtain ⟨v1, v2, v3, v4⟩ := q4 j h0 g
          rw [u1, u2, u3, u4, v1, v2, v3, v4]
          obtain ⟨w1, w2⟩ := dv_u (a := (j : Int)) (q := x2.toInt) (r := (j : Int) - b) (c := cols.toInt) (by omega) (by rw [← hb]; omega) (by omega) (by omega)
          rw [w1, w2]
          exact ⟨rfl, rfl, rfl, rfl⟩
        · exact j3 j (by omega) h1
theorem lo_e {rows cols high wide h' w' : Int32} {R C B F R' C' B' F' : List Int32} {m : Nat} (hm : rows.toInt * cols.toInt = m) (m32 : m ≤ 32) (r0 : 1 ≤ rows.toInt) (r4 : rows.toInt ≤ 4) (c0 : 1 ≤ cols.toInt) (c8 : cols.toInt ≤ 8) (l1 : R.length = 32) (l2 : C.length = 32) (l3 : B.length = 32) (l4 : F.length = 32) (e : fX5_layOut 700 rows cols high wide R C B F = some (h', w', R', C', B', F')) : h' = rows ∧ w' = cols ∧ fl_w m cols.toInt 0 R' C' B' F' := by
  have n0 : (0 : Int32).toInt = 0 := by decide
  have z0 : (0 : Int32).toInt.toNat = 0 := by decide
  unfold fX5_layOut at e
  obtain ⟨⟨j1, j2⟩, -, j3⟩ := lo_20 hm m32 r0 r4 c0 c8 700 (0 : Int32) (0 : Int32) R C B F h' w' R' C' B' F' e (by omega) (by omega) (by rw [n0, Int.zero_mul]) l1 l2 l3 l4
  refine ⟨j1, j2, fun j hj => ?_⟩
  rw [Nat.zero_add]
  exact j3 j (by omega) hj
theorem li_22 {x1 ro co : Int32} {sR sC : List Int32} {m : Nat} (hm : (ro * co).toInt = m) (m32 : m ≤ 32) (c0 : 1 ≤ co.toInt) (c8 : co.toInt ≤ 8) (L0 : 0 ≤ x1.toInt) (L5 : x1.toInt ≤ 5) : ∀ (n : Nat) (x2 : Int32) (row col bel fac sR' sC' row' col' bel' fac' : List Int32), fX9_liesFlat_22 700 n x1 x2 ro co sR sC row col bel fac = some (sR', sC', row', col', bel', fac') → 0 ≤ x2.toInt → x2.toInt ≤ m → row.length = 192 → col.length = 192 → bel.length = 192 → fac.length = 192 → (sR' = sR ∧ sC' = sC ∧ row'.length = 192 ∧ col'.length = 192 ∧ bel'.length = 192 ∧ fac'.length = 192) ∧ (∀ j : Nat, j < 192 → (j < 32 * x1.toInt.toNat + x2.toInt.toNat ∨ 32 * x1.toInt.toNat + m ≤ j) → row'.getD j 0 = row.getD j 0 ∧ col'.getD j 0 = col.getD j 0 ∧ bel'.getD j 0 = bel.getD j 0 ∧ fac'.getD j 0 = fac.getD j 0) ∧ (∀ k : Nat, x2.toInt.toNat ≤ k → k < m → (row'.getD (32 * x1.toInt.toNat + k) 0).toInt = (k : Int) / co.toInt ∧ (col'.getD (32 * x1.toInt.toNat + k) 0).toInt = (k : Int) % co.toInt ∧ bel'.getD (32 * x1.toInt.toNat + k) 0 = 0 ∧ fac'.getD (32 * x1.toInt.toNat + k) 0 = 0) := by
  have n1 : (1 : Int32).toInt = 1 := by decide
  intro n
  induction n with
  | zero =>
    intro x2 row col bel fac sR' sC' row' col' bel' fac' e
    exact absurd e (by intro h; cases h)
  | succ n ih =>
    intro x2 row col bel fac sR' sC' row' col' bel' fac' e p0 p1 l1 l2 l3 l4
    rw [uf_X9_liesFlat_22] at e
    obtain ⟨f, ef, e⟩ := mm_bd1s e
    have hf : ro * co = f := sm_i ef
    subst hf
    by_cases c : ro * co ≤ x2
    · rw [if_pos c] at e
      have d := i_le c
      have e := sm_i e
      injection e with e1 e
      injection e with e2 e
      injection e with e3 e
      injection e with e4 e
      injection e with e5 e6
      subst e1 e2 e3 e4 e5 e6
      exact ⟨⟨rfl, rfl, l1, l2, l3, l4⟩, fun j _ _ => ⟨rfl, rfl, rfl, rfl⟩, fun k k0 k1 => absurd k1 (by omega)⟩
    · rw [if_neg c] at e
      have d := i_nle c
      have e := ck_x e
      rw [nm_eq] at e
      have e := ck_x e
      rw [nm_eq] at e
      have e := ck_x e
      rw [nm_eq] at e
      have e := ck_x e
      rw [nm_eq] at e
      have e := ck_x e
      rw [nm_eq] at e
      have e := ck_x e
      rw [nm_eq, nm_eq] at e
      have io := ix_e L0 L5 p0 (show x2.toInt ≤ 64 by omega)
      have s1 := ps_is row (((32 : Int32) * x1) + x2) (x2 / co)
      have s2 := ps_is col (((32 : Int32) * x1) + x2) (mm_rem x2 co)
      have s3 := ps_is bel (((32 : Int32) * x1) + x2) (0 : Int32)
      have s4 := ps_is fac (((32 : Int32) * x1) + x2) (0 : Int32)
      rw [io] at s1 s2 s3 s4
      have hdv : (x2 / co).toInt = x2.toInt / co.toInt := (i_div x2 co (by omega)).resolve_left (by omega)
      have hrm : (mm_rem x2 co).toInt = x2.toInt % co.toInt := ((i_rem x2 co (by omega)).resolve_left (by omega)).1
      generalize hy : x2 + (1 : Int32) = y at e
      have ey := i_addE hy (by omega) (by omega)
      obtain ⟨q1, q2, q3⟩ := ih y _ _ _ _ sR' sC' row' col' bel' fac' e (by omega) (by omega) (by rw [is_len]; exact l1) (by rw [is_len]; exact l2) (by rw [is_len]; exact l3) (by rw [is_len]; exact l4)
      refine ⟨q1, fun j hj hk => ?_, fun k k0 k1 => ?_⟩
      · obtain ⟨u1, u2, u3, u4⟩ := q2 j hj (by omega)
        rw [u1, u2, u3, u4, ps_ne s1 (by omega) (by omega), ps_ne s2 (by omega) (by omega), ps_ne s3 (by omega) (by omega), ps_ne s4 (by omega) (by omega)]
        exact ⟨rfl, rfl, rfl, rfl⟩
      · by_cases g : x2.toInt.toNat = k
        · obtain ⟨u1, u2, u3, u4⟩ := q2 (32 * x1.toInt.toNat + k) (by omega) (by omega)
          rw [← g] at u1 u2 u3 u4 ⊢
          rw [u1, u2, u3, u4, ps_at s1 (by omega), ps_at s2 (by omega), ps_at s3 (by omega), ps_at s4 (by omega), hdv, hrm]
          have hk : ((x2.toInt.toNat : Nat) : Int) = x2.toInt := by omega
          rw [hk]
          exact ⟨rfl, rfl, rfl, rfl⟩
        · exact q3 k (by omega) k1
theorem li_e {x1 ro co : Int32} {sR sC row col bel fac sR' sC' row' col' bel' fac' : List Int32} {m : Nat} (hm : (ro * co).toInt = m) (m32 : m ≤ 32) (c0 : 1 ≤ co.toInt) (c8 : co.toInt ≤ 8) (L0 : 0 ≤ x1.toInt) (L5 : x1.toInt ≤ 5) (l1 : row.length = 192) (l2 : col.length = 192) (l3 : bel.length = 192) (l4 : fac.length = 192) (e : fX9_liesFlat 700 x1 ro co sR sC row col bel fac = some (sR', sC', row', col', bel', fac')) : sR' = mm_is sR x1 ro ∧ sC' = mm_is sC x1 co ∧ (row'.length = 192 ∧ col'.length = 192 ∧ bel'.length = 192 ∧ fac'.length = 192) ∧ fq_w (32 * x1.toInt.toNat) m row col bel fac row' col' bel' fac' ∧ fl_w m co.toInt (32 * x1.toInt.toNat) row' col' bel' fac' := by
  have n0 : (0 : Int32).toInt = 0 := by decide
  have z0 : (0 : Int32).toInt.toNat = 0 := by decide
  unfold fX9_liesFlat at e
  have e := ck_x e
  rw [nm_eq] at e
  have e := ck_x e
  rw [nm_eq] at e
  obtain ⟨⟨q1, q2, q3⟩, q4, q5⟩ := li_22 hm m32 c0 c8 L0 L5 700 (0 : Int32) row col bel fac sR' sC' row' col' bel' fac' e (by omega) (by omega) l1 l2 l3 l4
  exact ⟨q1, q2, q3, fun j hj hk => q4 j hj (by omega), fun k hk => q5 k (by omega) hk⟩
theorem fl_x {m o : Nat} {c : Int} {R C B F row col bel fac : List Int32} (h8 : fl_w m c 0 R C B F) (h9 : fl_w m c o row col bel fac) : gx_w m o R C B F row col bel fac := fun k hk => by
  obtain ⟨a1, a2, a3, a4⟩ := h8 k hk
  obtain ⟨b1, b2, b3, b4⟩ := h9 k hk
  rw [Nat.zero_add] at a1 a2 a3 a4
  exact ⟨Int32.toInt_inj.mp (by rw [b1, a1]), Int32.toInt_inj.mp (by rw [b2, a2]), by rw [b3, a3], by rw [b4, a4]⟩
end
