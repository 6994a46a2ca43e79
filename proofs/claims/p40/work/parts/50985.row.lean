/-! row, put, element: items -/
theorem rw_it {x1 x2 x3 : Int32} {v_shelves0_holds : Int32} {v_shelves0_sort : Int32} {v_shelves0_size : Int32} {v_shelves1_holds : Int32} {v_shelves1_sort : Int32} {v_shelves1_size : Int32} {v_shelves2_holds : Int32} {v_shelves2_sort : Int32} {v_shelves2_size : Int32} {v_shelves3_holds : Int32} {v_shelves3_sort : Int32} {v_shelves3_size : Int32} {v_shelves4_holds : Int32} {v_shelves4_sort : Int32} {v_shelves4_size : Int32} {v_shelves5_holds : Int32} {v_shelves5_sort : Int32} {v_shelves5_size : Int32} {m_shelf m_many : List Int32} {m_items : List Int64} {v_shelves0_items : List Int64} {v_shelves1_items : List Int64} {v_shelves2_items : List Int64} {v_shelves3_items : List Int64} {v_shelves4_items : List Int64} {v_shelves5_items : List Int64} {r8 r9 : Int32} {p_shelves0_holds : Int32} {p_shelves0_sort : Int32} {p_shelves0_size : Int32} {p_shelves0_items : List Int64} {p_shelves1_holds : Int32} {p_shelves1_sort : Int32} {p_shelves1_size : Int32} {p_shelves1_items : List Int64} {p_shelves2_holds : Int32} {p_shelves2_sort : Int32} {p_shelves2_size : Int32} {p_shelves2_items : List Int64} {p_shelves3_holds : Int32} {p_shelves3_sort : Int32} {p_shelves3_size : Int32} {p_shelves3_items : List Int64} {p_shelves4_holds : Int32} {p_shelves4_sort : Int32} {p_shelves4_size : Int32} {p_shelves4_items : List Int64} {p_shelves5_holds : Int32} {p_shelves5_sort : Int32} {p_shelves5_size : Int32} {p_shelves5_items : List Int64} {q_shelf q_many : List Int32} {q_items : List Int64} (hx0 : 0 ≤ x1.toInt) (hx1 : x1.toInt ≤ 5) (hy0 : 0 ≤ x2.toInt) (hy1 : x2.toInt ≤ 4) (hs : m_shelf.length = 6) (hm : m_many.length = 6) (hi : m_items.length = 360) (l0 : v_shelves0_items.length = 60) (l1 : v_shelves1_items.length = 60) (l2 : v_shelves2_items.length = 60) (l3 : v_shelves3_items.length = 60) (l4 : v_shelves4_items.length = 60) (l5 : v_shelves5_items.length = 60) (H : rl_it v_shelves0_items v_shelves1_items v_shelves2_items v_shelves3_items v_shelves4_items v_shelves5_items m_items) (e8 : fX8_row 700 x1 x2 x3 v_shelves0_holds v_shelves0_sort v_shelves0_size v_shelves0_items v_shelves1_holds v_shelves1_sort v_shelves1_size v_shelves1_items v_shelves2_holds v_shelves2_sort v_shelves2_size v_shelves2_items v_shelves3_holds v_shelves3_sort v_shelves3_size v_shelves3_items v_shelves4_holds v_shelves4_sort v_shelves4_size v_shelves4_items v_shelves5_holds v_shelves5_sort v_shelves5_size v_shelves5_items = some (r8, p_shelves0_holds, p_shelves0_sort, p_shelves0_size, p_shelves0_items, p_shelves1_holds, p_shelves1_sort, p_shelves1_size, p_shelves1_items, p_shelves2_holds, p_shelves2_sort, p_shelves2_size, p_shelves2_items, p_shelves3_holds, p_shelves3_sort, p_shelves3_size, p_shelves3_items, p_shelves4_holds, p_shelves4_sort, p_shelves4_size, p_shelves4_items, p_shelves5_holds, p_shelves5_sort, p_shelves5_size, p_shelves5_items)) (e9 : fX9_row 700 x1 x2 x3 m_shelf m_many m_items = some (r9, q_shelf, q_many, q_items)) (hz0 : 0 ≤ x3.toInt) (hz1 : x3.toInt ≤ 60) : rl_it p_shelves0_items p_shelves1_items p_shelves2_items p_shelves3_items p_shelves4_items p_shelves5_items q_items := by
  obtain ⟨t0, t1, t2, t3, t4, t5⟩ := H
  have n60 : (60 : Int32).toInt = 60 := by decide
  have n50 : (50 : Int32).toInt = 50 := by decide
  have n5 : (5 : Int32).toInt = 5 := by decide
  have n0 : (0 : Int32).toInt = 0 := by decide
  have m0 : (0 : Int64).toInt = 0 := by decide
  have m4 : (4 : Int64).toInt = 4 := by decide
  have my := i_64 x2
  unfold fX9_row at e9
  rw [sh9_e, decide_eq_true ⟨hx0, hx1⟩, bs_1, if_neg (show ¬ (true = false) by decide)] at e9
  obtain ⟨w, ew, qw⟩ := sf_X9_within (Nat.le_refl 700) (x0 := x2.toInt64) (x2 := 0) (x4 := 4)
  rw [my, m0, m4] at qw
  rcases qw with ⟨rfl, q0, q1⟩ | ⟨rfl, q0⟩
  case inr => exact absurd q0 (by omega)
  rw [ew, bs_1, if_neg (show ¬ (true = false) by decide), if_pos (show x3 ≤ (60 : Int32) by rw [Int32.le_iff_toInt_le]; omega), if_pos (show 0 ≤ x3 by rw [Int32.le_iff_toInt_le]; omega), nm_eq, ck_t (i_inb (by omega) (by omega)), nm_eq, ck_t (i_inb (by omega) (by omega)), nm_eq, nm_eq] at e9
  have e1 : ((60 : Int32) * x1).toInt = 60 * x1.toInt := i_mulLE n60 rfl (by omega) (by omega)
  obtain ⟨⟨y1, y2, y3, it⟩, eit, qit⟩ := sg_row57 (sf := mm_is m_shelf x1 ((50 : Int32) + x2)) (mn := mm_is m_many x1 x3) hx0 hx1 700 ((60 : Int32) * x1) m_items hi (by omega) (by omega) (by omega)
  obtain ⟨-, -, -, -, hm'⟩ := qit
  rw [e1] at hm'
  rw [eit] at e9
  injection e9 with e9
  injection e9 with z0 e9
  injection e9 with z1 e9
  injection e9 with z2 e9
  subst e9
  unfold fX8_row fX6_holdRow at e8
  rw [sh8_e, decide_eq_true ⟨hx0, hx1⟩, bs_1, if_neg (show ¬ (true = false) by decide), if_neg (show ¬ x2 < 0 by rw [Int32.lt_iff_toInt_lt]; omega), if_neg (show ¬ (5 : Int32) ≤ x2 by rw [Int32.le_iff_toInt_le]; omega), if_pos (show x3 ≤ (60 : Int32) by rw [Int32.le_iff_toInt_le]; omega), if_pos (show 0 ≤ x3 by rw [Int32.le_iff_toInt_le]; omega)] at e8
  rcases k6 hx0 hx1 with rfl | rfl | rfl | rfl | rfl | rfl
  · rw [if_pos rfl] at e8
    obtain ⟨w, ew, qw⟩ := fl_z l0
    rw [ew, bs_1, bs_4] at e8
    injection e8 with e8
    injection e8 with s0 e8
    injection e8 with s1 e8
    injection e8 with s2 e8
    injection e8 with s3 e8
    injection e8 with s4 e8
    injection e8 with s5 e8
    injection e8 with s6 e8
    injection e8 with s7 e8
    injection e8 with s8 e8
    injection e8 with s9 e8
    injection e8 with s10 e8
    injection e8 with s11 e8
    injection e8 with s12 e8
    injection e8 with s13 e8
    injection e8 with s14 e8
    injection e8 with s15 e8
    injection e8 with s16 e8
    injection e8 with s17 e8
    injection e8 with s18 e8
    injection e8 with s19 e8
    injection e8 with s20 e8
    injection e8 with s21 e8
    injection e8 with s22 e8
    injection e8 with s23 e8
    subst s1 s2 s3 s4 s5 s6 s7 s8 s9 s10 s11 s12 s13 s14 s15 s16 s17 s18 s19 s20 s21 s22 s23 e8
    exact ⟨it_fz (show (0 : Int32).toInt = ((0 : Nat) : Int) by decide) (by decide) qw.2 hm', it_fn (show (0 : Int32).toInt = ((0 : Nat) : Int) by decide) (by decide) (by decide) (by decide) hm' t1, it_fn (show (0 : Int32).toInt = ((0 : Nat) : Int) by decide) (by decide) (by decide) (by decide) hm' t2, it_fn (show (0 : Int32).toInt = ((0 : Nat) : Int) by decide) (by decide) (by decide) (by decide) hm' t3, it_fn (show (0 : Int32).toInt = ((0 : Nat) : Int) by decide) (by decide) (by decide) (by decide) hm' t4, it_fn (show (0 : Int32).toInt = ((0 : Nat) : Int) by decide) (by decide) (by decide) (by decide) hm' t5⟩
  · rw [if_neg (show ¬ (1 : Int32) = 0 by decide), if_pos rfl] at e8
    obtain ⟨w, ew, qw⟩ := fl_z l1
    rw [ew, bs_1, bs_4] at e8
    injection e8 with e8
    injection e8 with s0 e8
    injection e8 with s1 e8
    injection e8 with s2 e8
    injection e8 with s3 e8
    injection e8 with s4 e8
    injection e8 with s5 e8
    injection e8 with s6 e8
    injection e8 with s7 e8
    injection e8 with s8 e8
    injection e8 with s9 e8
    injection e8 with s10 e8
    injection e8 with s11 e8
    injection e8 with s12 e8
    injection e8 with s13 e8
    injection e8 with s14 e8
    injection e8 with s15 e8
    injection e8 with s16 e8
    injection e8 with s17 e8
    injection e8 with s18 e8
    injection e8 with s19 e8
    injection e8 with s20 e8
    injection e8 with s21 e8
    injection e8 with s22 e8
    injection e8 with s23 e8
    subst s1 s2 s3 s4 s5 s6 s7 s8 s9 s10 s11 s12 s13 s14 s15 s16 s17 s18 s19 s20 s21 s22 s23 e8
    exact ⟨it_fn (show (1 : Int32).toInt = ((1 : Nat) : Int) by decide) (by decide) (by decide) (by decide) hm' t0, it_fz (show (1 : Int32).toInt = ((1 : Nat) : Int) by decide) (by decide) qw.2 hm', it_fn (show (1 : Int32).toInt = ((1 : Nat) : Int) by decide) (by decide) (by decide) (by decide) hm' t2, it_fn (show (1 : Int32).toInt = ((1 : Nat) : Int) by decide) (by decide) (by decide) (by decide) hm' t3, it_fn (show (1 : Int32).toInt = ((1 : Nat) : Int) by decide) (by decide) (by decide) (by decide) hm' t4, it_fn (show (1 : Int32).toInt = ((1 : Nat) : Int) by decide) (by decide) (by decide) (by decide) hm' t5⟩
  · rw [if_neg (show ¬ (2 : Int32) = 0 by decide), if_neg (show ¬ (2 : Int32) = 1 by decide), if_pos rfl] at e8
    obtain ⟨w, ew, qw⟩ := fl_z l2
    rw [ew, bs_1, bs_4] at e8
    injection e8 with e8
    injection e8 with s0 e8
    injection e8 with s1 e8
    injection e8 with s2 e8
    injection e8 with s3 e8
    injection e8 with s4 e8
    injection e8 with s5 e8
    injection e8 with s6 e8
    injection e8 with s7 e8
    injection e8 with s8 e8
    injection e8 with s9 e8
    injection e8 with s10 e8
    injection e8 with s11 e8
    injection e8 with s12 e8
    injection e8 with s13 e8
    injection e8 with s14 e8
    injection e8 with s15 e8
    injection e8 with s16 e8
    injection e8 with s17 e8
    injection e8 with s18 e8
    injection e8 with s19 e8
    injection e8 with s20 e8
    injection e8 with s21 e8
    injection e8 with s22 e8
    injection e8 with s23 e8
    subst s1 s2 s3 s4 s5 s6 s7 s8 s9 s10 s11 s12 s13 s14 s15 s16 s17 s18 s19 s20 s21 s22 s23 e8
    exact ⟨it_fn (show (2 : Int32).toInt = ((2 : Nat) : Int) by decide) (by decide) (by decide) (by decide) hm' t0, it_fn (show (2 : Int32).toInt = ((2 : Nat) : Int) by decide) (by decide) (by decide) (by decide) hm' t1, it_fz (show (2 : Int32).toInt = ((2 : Nat) : Int) by decide) (by decide) qw.2 hm', it_fn (show (2 : Int32).toInt = ((2 : Nat) : Int) by decide) (by decide) (by decide) (by decide) hm' t3, it_fn (show (2 : Int32).toInt = ((2 : Nat) : Int) by decide) (by decide) (by decide) (by decide) hm' t4, it_fn (show (2 : Int32).toInt = ((2 : Nat) : Int) by decide) (by decide) (by decide) (by decide) hm' t5⟩
  · rw [if_neg (show ¬ (3 : Int32) = 0 by decide), if_neg (show ¬ (3 : Int32) = 1 by decide), if_neg (show ¬ (3 : Int32) = 2 by decide), if_pos rfl] at e8
    obtain ⟨w, ew, qw⟩ := fl_z l3
    rw [ew, bs_1, bs_4] at e8
    injection e8 with e8
    injection e8 with s0 e8
    injection e8 with s1 e8
    injection e8 with s2 e8
    injection e8 with s3 e8
    injection e8 with s4 e8
    injection e8 with s5 e8
    injection e8 with s6 e8
    injection e8 with s7 e8
    injection e8 with s8 e8
    injection e8 with s9 e8
    injection e8 with s10 e8
    injection e8 with s11 e8
    injection e8 with s12 e8
    injection e8 with s13 e8
    injection e8 with s14 e8
    injection e8 with s15 e8
    injection e8 with s16 e8
    injection e8 with s17 e8
    injection e8 with s18 e8
    injection e8 with s19 e8
    injection e8 with s20 e8
    injection e8 with s21 e8
    injection e8 with s22 e8
    injection e8 with s23 e8
    subst s1 s2 s3 s4 s5 s6 s7 s8 s9 s10 s11 s12 s13 s14 s15 s16 s17 s18 s19 s20 s21 s22 s23 e8
    exact ⟨it_fn (show (3 : Int32).toInt = ((3 : Nat) : Int) by decide) (by decide) (by decide) (by decide) hm' t0, it_fn (show (3 : Int32).toInt = ((3 : Nat) : Int) by decide) (by decide) (by decide) (by decide) hm' t1, it_fn (show (3 : Int32).toInt = ((3 : Nat) : Int) by decide) (by decide) (by decide) (by decide) hm' t2, it_fz (show (3 : Int32).toInt = ((3 : Nat) : Int) by decide) (by decide) qw.2 hm', it_fn (show (3 : Int32).toInt = ((3 : Nat) : Int) by decide) (by decide) (by decide) (by decide) hm' t4, it_fn (show (3 : Int32).toInt = ((3 : Nat) : Int) by decide) (by decide) (by decide) (by decide) hm' t5⟩
  · rw [if_neg (show ¬ (4 : Int32) = 0 by decide), if_neg (show ¬ (4 : Int32) = 1 by decide), if_neg (show ¬ (4 : Int32) = 2 by decide), if_neg (show ¬ (4 : Int32) = 3 by decide), if_pos rfl] at e8
    obtain ⟨w, ew, qw⟩ := fl_z l4
    rw [ew, bs_1, bs_4] at e8
    injection e8 with e8
    injection e8 with s0 e8
    injection e8 with s1 e8
    injection e8 with s2 e8
    injection e8 with s3 e8
    injection e8 with s4 e8
    injection e8 with s5 e8
    injection e8 with s6 e8
    injection e8 with s7 e8
    injection e8 with s8 e8
    injection e8 with s9 e8
    injection e8 with s10 e8
    injection e8 with s11 e8
    injection e8 with s12 e8
    injection e8 with s13 e8
    injection e8 with s14 e8
    injection e8 with s15 e8
    injection e8 with s16 e8
    injection e8 with s17 e8
    injection e8 with s18 e8
    injection e8 with s19 e8
    injection e8 with s20 e8
    injection e8 with s21 e8
    injection e8 with s22 e8
    injection e8 with s23 e8
    subst s1 s2 s3 s4 s5 s6 s7 s8 s9 s10 s11 s12 s13 s14 s15 s16 s17 s18 s19 s20 s21 s22 s23 e8
    exact ⟨it_fn (show (4 : Int32).toInt = ((4 : Nat) : Int) by decide) (by decide) (by decide) (by decide) hm' t0, it_fn (show (4 : Int32).toInt = ((4 : Nat) : Int) by decide) (by decide) (by decide) (by decide) hm' t1, it_fn (show (4 : Int32).toInt = ((4 : Nat) : Int) by decide) (by decide) (by decide) (by decide) hm' t2, it_fn (show (4 : Int32).toInt = ((4 : Nat) : Int) by decide) (by decide) (by decide) (by decide) hm' t3, it_fz (show (4 : Int32).toInt = ((4 : Nat) : Int) by decide) (by decide) qw.2 hm', it_fn (show (4 : Int32).toInt = ((4 : Nat) : Int) by decide) (by decide) (by decide) (by decide) hm' t5⟩
  · rw [if_neg (show ¬ (5 : Int32) = 0 by decide), if_neg (show ¬ (5 : Int32) = 1 by decide), if_neg (show ¬ (5 : Int32) = 2 by decide), if_neg (show ¬ (5 : Int32) = 3 by decide), if_neg (show ¬ (5 : Int32) = 4 by decide), if_pos rfl] at e8
    obtain ⟨w, ew, qw⟩ := fl_z l5
    rw [ew, bs_1, bs_4] at e8
    injection e8 with e8
    injection e8 with s0 e8
    injection e8 with s1 e8
    injection e8 with s2 e8
    injection e8 with s3 e8
    injection e8 with s4 e8
    injection e8 with s5 e8
    injection e8 with s6 e8
    injection e8 with s7 e8
    injection e8 with s8 e8
    injection e8 with s9 e8
    injection e8 with s10 e8
    injection e8 with s11 e8
    injection e8 with s12 e8
    injection e8 with s13 e8
    injection e8 with s14 e8
    injection e8 with s15 e8
    injection e8 with s16 e8
    injection e8 with s17 e8
    injection e8 with s18 e8
    injection e8 with s19 e8
    injection e8 with s20 e8
    injection e8 with s21 e8
    injection e8 with s22 e8
    injection e8 with s23 e8
    subst s1 s2 s3 s4 s5 s6 s7 s8 s9 s10 s11 s12 s13 s14 s15 s16 s17 s18 s19 s20 s21 s22 s23 e8
    exact ⟨it_fn (show (5 : Int32).toInt = ((5 : Nat) : Int) by decide) (by decide) (by decide) (by decide) hm' t0, it_fn (show (5 : Int32).toInt = ((5 : Nat) : Int) by decide) (by decide) (by decide) (by decide) hm' t1, it_fn (show (5 : Int32).toInt = ((5 : Nat) : Int) by decide) (by decide) (by decide) (by decide) hm' t2, it_fn (show (5 : Int32).toInt = ((5 : Nat) : Int) by decide) (by decide) (by decide) (by decide) hm' t3, it_fn (show (5 : Int32).toInt = ((5 : Nat) : Int) by decide) (by decide) (by decide) (by decide) hm' t4, it_fz (show (5 : Int32).toInt = ((5 : Nat) : Int) by decide) (by decide) qw.2 hm'⟩
theorem rw_no {x1 x2 x3 : Int32} {v_shelves0_holds : Int32} {v_shelves0_sort : Int32} {v_shelves0_size : Int32} {v_shelves0_items : List Int64} {v_shelves1_holds : Int32} {v_shelves1_sort : Int32} {v_shelves1_size : Int32} {v_shelves1_items : List Int64} {v_shelves2_holds : Int32} {v_shelves2_sort : Int32} {v_shelves2_size : Int32} {v_shelves2_items : List Int64} {v_shelves3_holds : Int32} {v_shelves3_sort : Int32} {v_shelves3_size : Int32} {v_shelves3_items : List Int64} {v_shelves4_holds : Int32} {v_shelves4_sort : Int32} {v_shelves4_size : Int32} {v_shelves4_items : List Int64} {v_shelves5_holds : Int32} {v_shelves5_sort : Int32} {v_shelves5_size : Int32} {v_shelves5_items : List Int64} {m_shelf m_many : List Int32} {m_items : List Int64} (ok : ¬ ((0 ≤ x1.toInt ∧ x1.toInt ≤ 5) ∧ (0 ≤ x2.toInt ∧ x2.toInt ≤ 4) ∧ (0 ≤ x3.toInt ∧ x3.toInt ≤ 60))) : ∃ r : Int32, fX8_row 700 x1 x2 x3 v_shelves0_holds v_shelves0_sort v_shelves0_size v_shelves0_items v_shelves1_holds v_shelves1_sort v_shelves1_size v_shelves1_items v_shelves2_holds v_shelves2_sort v_shelves2_size v_shelves2_items v_shelves3_holds v_shelves3_sort v_shelves3_size v_shelves3_items v_shelves4_holds v_shelves4_sort v_shelves4_size v_shelves4_items v_shelves5_holds v_shelves5_sort v_shelves5_size v_shelves5_items = some (r, v_shelves0_holds, v_shelves0_sort, v_shelves0_size, v_shelves0_items, v_shelves1_holds, v_shelves1_sort, v_shelves1_size, v_shelves1_items, v_shelves2_holds, v_shelves2_sort, v_shelves2_size, v_shelves2_items, v_shelves3_holds, v_shelves3_sort, v_shelves3_size, v_shelves3_items, v_shelves4_holds, v_shelves4_sort, v_shelves4_size, v_shelves4_items, v_shelves5_holds, v_shelves5_sort, v_shelves5_size, v_shelves5_items) ∧ fX9_row 700 x1 x2 x3 m_shelf m_many m_items = some (r, m_shelf, m_many, m_items) := by
  have n60 : (60 : Int32).toInt = 60 := by decide
  have n5 : (5 : Int32).toInt = 5 := by decide
  have n0 : (0 : Int32).toInt = 0 := by decide
  have m0 : (0 : Int64).toInt = 0 := by decide
  have m4 : (4 : Int64).toInt = 4 := by decide
  have my := i_64 x2
  unfold fX8_row fX9_row
  rw [sh8_e, sh9_e, bs_1, bs_1]
  by_cases hx : 0 ≤ x1.toInt ∧ x1.toInt ≤ 5
  · rw [decide_eq_true hx, if_neg (show ¬ (true = false) by decide), if_neg (show ¬ (true = false) by decide)]
    obtain ⟨w, ew, qw⟩ := sf_X9_within (Nat.le_refl 700) (x0 := x2.toInt64) (x2 := 0) (x4 := 4)
    rw [ew, bs_1]
    rw [my, m0, m4] at qw
    rcases qw with ⟨rfl, y0, y1⟩ | ⟨rfl, y0⟩
    · rw [if_neg (show ¬ x2 < 0 by rw [Int32.lt_iff_toInt_lt]; omega), if_neg (show ¬ (5 : Int32) ≤ x2 by rw [Int32.le_iff_toInt_le]; omega), if_neg (show ¬ (true = false) by decide)]
      by_cases hz : x3 ≤ (60 : Int32)
      · rw [if_pos hz, if_pos hz]
        by_cases h0 : 0 ≤ x3
        · rw [Int32.le_iff_toInt_le] at hz h0
          exact absurd ⟨hx, ⟨y0, y1⟩, by omega, by omega⟩ ok
        · rw [if_neg h0, if_neg h0]
          exact ⟨_, rfl, rfl⟩
      · rw [if_neg hz, if_neg hz]
        exact ⟨_, rfl, rfl⟩
    · rw [if_pos (rfl : false = false)]
      by_cases c : x2 < 0
      · rw [if_pos c]
        exact ⟨_, rfl, rfl⟩
      · rw [if_neg c, if_pos (show (5 : Int32) ≤ x2 by rw [Int32.lt_iff_toInt_lt] at c; rw [Int32.le_iff_toInt_le]; omega)]
        exact ⟨_, rfl, rfl⟩
  · rw [decide_eq_false hx, if_pos rfl, if_pos rfl]
    exact ⟨_, rfl, rfl⟩
theorem rs_row_it {x1 : Int32} {x2 : Int32} {x3 : Int32} {v_shelves0_holds : Int32} {v_shelves0_sort : Int32} {v_shelves0_size : Int32} {v_shelves0_items : List Int64} {v_shelves1_holds : Int32} {v_shelves1_sort : Int32} {v_shelves1_size : Int32} {v_shelves1_items : List Int64} {v_shelves2_holds : Int32} {v_shelves2_sort : Int32} {v_shelves2_size : Int32} {v_shelves2_items : List Int64} {v_shelves3_holds : Int32} {v_shelves3_sort : Int32} {v_shelves3_size : Int32} {v_shelves3_items : List Int64} {v_shelves4_holds : Int32} {v_shelves4_sort : Int32} {v_shelves4_size : Int32} {v_shelves4_items : List Int64} {v_shelves5_holds : Int32} {v_shelves5_sort : Int32} {v_shelves5_size : Int32} {v_shelves5_items : List Int64} {v_foldings_size : Int32} {v_shelves0_body : Int32} {v_shelves1_body : Int32} {v_shelves2_body : Int32} {v_shelves3_body : Int32} {v_shelves4_body : Int32} {v_shelves5_body : Int32} {m_shelf : List Int32} {m_many : List Int32} {m_items : List Int64} {m_carried : List Int64} (g8_0 : gi_sf v_shelves0_size v_shelves0_items) (g8_1 : gi_sf v_shelves1_size v_shelves1_items) (g8_2 : gi_sf v_shelves2_size v_shelves2_items) (g8_3 : gi_sf v_shelves3_size v_shelves3_items) (g8_4 : gi_sf v_shelves4_size v_shelves4_items) (g8_5 : gi_sf v_shelves5_size v_shelves5_items) (g9_0 : gm_sf m_shelf m_many m_items m_carried) (hr_0 : rl_sc v_foldings_size v_shelves0_holds v_shelves0_body v_shelves0_sort v_shelves0_size v_shelves1_holds v_shelves1_body v_shelves1_sort v_shelves1_size v_shelves2_holds v_shelves2_body v_shelves2_sort v_shelves2_size v_shelves3_holds v_shelves3_body v_shelves3_sort v_shelves3_size v_shelves4_holds v_shelves4_body v_shelves4_sort v_shelves4_size v_shelves5_holds v_shelves5_body v_shelves5_sort v_shelves5_size m_shelf m_many) (hr_1 : rl_it v_shelves0_items v_shelves1_items v_shelves2_items v_shelves3_items v_shelves4_items v_shelves5_items m_items) : ∃ (r : Int32) (p_shelves0_holds : Int32) (p_shelves0_sort : Int32) (p_shelves0_size : Int32) (p_shelves0_items : List Int64) (p_shelves1_holds : Int32) (p_shelves1_sort : Int32) (p_shelves1_size : Int32) (p_shelves1_items : List Int64) (p_shelves2_holds : Int32) (p_shelves2_sort : Int32) (p_shelves2_size : Int32) (p_shelves2_items : List Int64) (p_shelves3_holds : Int32) (p_shelves3_sort : Int32) (p_shelves3_size : Int32) (p_shelves3_items : List Int64) (p_shelves4_holds : Int32) (p_shelves4_sort : Int32) (p_shelves4_size : Int32) (p_shelves4_items : List Int64) (p_shelves5_holds : Int32) (p_shelves5_sort : Int32) (p_shelves5_size : Int32) (p_shelves5_items : List Int64) (q_shelf : List Int32) (q_many : List Int32) (q_items : List Int64), fX8_row 700 x1 x2 x3 v_shelves0_holds v_shelves0_sort v_shelves0_size v_shelves0_items v_shelves1_holds v_shelves1_sort v_shelves1_size v_shelves1_items v_shelves2_holds v_shelves2_sort v_shelves2_size v_shelves2_items v_shelves3_holds v_shelves3_sort v_shelves3_size v_shelves3_items v_shelves4_holds v_shelves4_sort v_shelves4_size v_shelves4_items v_shelves5_holds v_shelves5_sort v_shelves5_size v_shelves5_items = some (r, p_shelves0_holds, p_shelves0_sort, p_shelves0_size, p_shelves0_items, p_shelves1_holds, p_shelves1_sort, p_shelves1_size, p_shelves1_items, p_shelves2_holds, p_shelves2_sort, p_shelves2_size, p_shelves2_items, p_shelves3_holds, p_shelves3_sort, p_shelves3_size, p_shelves3_items, p_shelves4_holds, p_shelves4_sort, p_shelves4_size, p_shelves4_items, p_shelves5_holds, p_shelves5_sort, p_shelves5_size, p_shelves5_items) ∧ fX9_row 700 x1 x2 x3 m_shelf m_many m_items = some (r, q_shelf, q_many, q_items) ∧ gi_sf p_shelves0_size p_shelves0_items ∧ gi_sf p_shelves1_size p_shelves1_items ∧ gi_sf p_shelves2_size p_shelves2_items ∧ gi_sf p_shelves3_size p_shelves3_items ∧ gi_sf p_shelves4_size p_shelves4_items ∧ gi_sf p_shelves5_size p_shelves5_items ∧ gm_sf q_shelf q_many q_items m_carried ∧ rl_sc v_foldings_size p_shelves0_holds v_shelves0_body p_shelves0_sort p_shelves0_size p_shelves1_holds v_shelves1_body p_shelves1_sort p_shelves1_size p_shelves2_holds v_shelves2_body p_shelves2_sort p_shelves2_size p_shelves3_holds v_shelves3_body p_shelves3_sort p_shelves3_size p_shelves4_holds v_shelves4_body p_shelves4_sort p_shelves4_size p_shelves5_holds v_shelves5_body p_shelves5_sort p_shelves5_size q_shelf q_many ∧ rl_it p_shelves0_items p_shelves1_items p_shelves2_items p_shelves3_items p_shelves4_items p_shelves5_items q_items := by
  obtain ⟨r, p0, p1, p2, p3, p4, p5, p6, p7, p8, p9, p10, p11, p12, p13, p14, p15, p16, p17, p18, p19, p20, p21, p22, p23, q0, q1, q2, e8, e9, k0, k1, k2, k3, k4, k5, k9, S⟩ := rs_row_sc (x1 := x1) (x2 := x2) (x3 := x3) g8_0 g8_1 g8_2 g8_3 g8_4 g8_5 g9_0 hr_0
  obtain ⟨b0, b1, b2, b3, b4⟩ := id g9_0
  obtain ⟨-, -, l0⟩ := id g8_0
  obtain ⟨-, -, l1⟩ := id g8_1
  obtain ⟨-, -, l2⟩ := id g8_2
  obtain ⟨-, -, l3⟩ := id g8_3
  obtain ⟨-, -, l4⟩ := id g8_4
  obtain ⟨-, -, l5⟩ := id g8_5
  have R : rl_it p3 p7 p11 p15 p19 p23 q2 := by
    by_cases ok : (0 ≤ x1.toInt ∧ x1.toInt ≤ 5) ∧ (0 ≤ x2.toInt ∧ x2.toInt ≤ 4) ∧ (0 ≤ x3.toInt ∧ x3.toInt ≤ 60)
    · exact rw_it ok.1.1 ok.1.2 ok.2.1.1 ok.2.1.2 b0 b1 b2 l0 l1 l2 l3 l4 l5 hr_1 e8 e9 ok.2.2.1 ok.2.2.2
    · have X : fX8_row 700 x1 x2 x3 v_shelves0_holds v_shelves0_sort v_shelves0_size v_shelves0_items v_shelves1_holds v_shelves1_sort v_shelves1_size v_shelves1_items v_shelves2_holds v_shelves2_sort v_shelves2_size v_shelves2_items v_shelves3_holds v_shelves3_sort v_shelves3_size v_shelves3_items v_shelves4_holds v_shelves4_sort v_shelves4_size v_shelves4_items v_shelves5_holds v_shelves5_sort v_shelves5_size v_shelves5_items = some (r, v_shelves0_holds, v_shelves0_sort, v_shelves0_size, v_shelves0_items, v_shelves1_holds, v_shelves1_sort, v_shelves1_size, v_shelves1_items, v_shelves2_holds, v_shelves2_sort, v_shelves2_size, v_shelves2_items, v_shelves3_holds, v_shelves3_sort, v_shelves3_size, v_shelves3_items, v_shelves4_holds, v_shelves4_sort, v_shelves4_size, v_shelves4_items, v_shelves5_holds, v_shelves5_sort, v_shelves5_size, v_shelves5_items) ∧ fX9_row 700 x1 x2 x3 m_shelf m_many m_items = some (r, m_shelf, m_many, m_items) := by
        obtain ⟨r', f8, f9⟩ := rw_no (x1 := x1) (x2 := x2) (x3 := x3) (v_shelves0_holds := v_shelves0_holds) (v_shelves0_sort := v_shelves0_sort) (v_shelves0_size := v_shelves0_size) (v_shelves0_items := v_shelves0_items) (v_shelves1_holds := v_shelves1_holds) (v_shelves1_sort := v_shelves1_sort) (v_shelves1_size := v_shelves1_size) (v_shelves1_items := v_shelves1_items) (v_shelves2_holds := v_shelves2_holds) (v_shelves2_sort := v_shelves2_sort) (v_shelves2_size := v_shelves2_size) (v_shelves2_items := v_shelves2_items) (v_shelves3_holds := v_shelves3_holds) (v_shelves3_sort := v_shelves3_sort) (v_shelves3_size := v_shelves3_size) (v_shelves3_items := v_shelves3_items) (v_shelves4_holds := v_shelves4_holds) (v_shelves4_sort := v_shelves4_sort) (v_shelves4_size := v_shelves4_size) (v_shelves4_items := v_shelves4_items) (v_shelves5_holds := v_shelves5_holds) (v_shelves5_sort := v_shelves5_sort) (v_shelves5_size := v_shelves5_size) (v_shelves5_items := v_shelves5_items) (m_shelf := m_shelf) (m_many := m_many) (m_items := m_items) ok
        rw [f8] at e8
        injection e8 with e8
        injection e8 with e8 _
        rw [f8, f9, e8]
        exact ⟨rfl, rfl⟩
      have z8 := e8.symm.trans X.1
      have z9 := e9.symm.trans X.2
      injection z8 with z8
      injection z8 with s0 z8
      injection z8 with s1 z8
      injection z8 with s2 z8
      injection z8 with s3 z8
      injection z8 with s4 z8
      injection z8 with s5 z8
      injection z8 with s6 z8
      injection z8 with s7 z8
      injection z8 with s8 z8
      injection z8 with s9 z8
      injection z8 with s10 z8
      injection z8 with s11 z8
      injection z8 with s12 z8
      injection z8 with s13 z8
      injection z8 with s14 z8
      injection z8 with s15 z8
      injection z8 with s16 z8
      injection z8 with s17 z8
      injection z8 with s18 z8
      injection z8 with s19 z8
      injection z8 with s20 z8
      injection z8 with s21 z8
      injection z8 with s22 z8
      injection z8 with s23 z8
      injection z9 with z9
      injection z9 with y0 z9
      injection z9 with y1 z9
      injection z9 with y2 z9
      subst s1 s2 s3 s4 s5 s6 s7 s8 s9 s10 s11 s12 s13 s14 s15 s16 s17 s18 s19 s20 s21 s22 s23 z8 z9
      exact hr_1
  exact ⟨_, _, _, _, _, _, _, _, _, _, _, _, _, _, _, _, _, _, _, _, _, _, _, _, _, _, _, _, e8, e9, k0, k1, k2, k3, k4, k5, k9, S, R⟩
