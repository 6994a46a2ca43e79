/-! put, element: items -/
theorem rf_h0 {x2 nb b : Int32} {v_shelves0_holds : Int32} {v_shelves0_size : Int32} {v_shelves1_holds : Int32} {v_shelves1_size : Int32} {v_shelves2_holds : Int32} {v_shelves2_size : Int32} {v_shelves3_holds : Int32} {v_shelves3_size : Int32} {v_shelves4_holds : Int32} {v_shelves4_size : Int32} {v_shelves5_holds : Int32} {v_shelves5_size : Int32} {s : Int32} {z : Int32} {shelf many : List Int32} (H : sc1 0 nb v_shelves0_holds b s z shelf many) (f8 : fX8_refusedElement 700 (0 : Int32) x2 v_shelves0_holds v_shelves0_size v_shelves1_holds v_shelves1_size v_shelves2_holds v_shelves2_size v_shelves3_holds v_shelves3_size v_shelves4_holds v_shelves4_size v_shelves5_holds v_shelves5_size = some (0 : Int32)) : mm_ig shelf 0 = (50 : Int32) + s ∧ 0 ≤ s.toInt ∧ s.toInt ≤ 4 := by
  unfold fX8_refusedElement at f8
  rw [sh8_e, bs_1, decide_eq_true (show 0 ≤ (0 : Int32).toInt ∧ (0 : Int32).toInt ≤ 5 by decide), if_neg (show ¬ (true = false) by decide), if_pos (rfl : (0 : Int32) = 0)] at f8
  rcases H with ⟨h1, h2⟩ | ⟨h1, h2⟩ | ⟨h1, h2, h3, h4, h5⟩
  · rw [h1, if_pos rfl] at f8
    injection f8 with f8
    exact absurd f8 (by decide)
  · rw [h1, if_neg (show ¬ (1 : Int32) = 0 by decide), if_pos rfl] at f8
    injection f8 with f8
    exact absurd f8 (by decide)
  · exact ⟨h2, h3, h4⟩
theorem rf_h1 {x2 nb b : Int32} {v_shelves0_holds : Int32} {v_shelves0_size : Int32} {v_shelves1_holds : Int32} {v_shelves1_size : Int32} {v_shelves2_holds : Int32} {v_shelves2_size : Int32} {v_shelves3_holds : Int32} {v_shelves3_size : Int32} {v_shelves4_holds : Int32} {v_shelves4_size : Int32} {v_shelves5_holds : Int32} {v_shelves5_size : Int32} {s : Int32} {z : Int32} {shelf many : List Int32} (H : sc1 1 nb v_shelves1_holds b s z shelf many) (f8 : fX8_refusedElement 700 (1 : Int32) x2 v_shelves0_holds v_shelves0_size v_shelves1_holds v_shelves1_size v_shelves2_holds v_shelves2_size v_shelves3_holds v_shelves3_size v_shelves4_holds v_shelves4_size v_shelves5_holds v_shelves5_size = some (0 : Int32)) : mm_ig shelf 1 = (50 : Int32) + s ∧ 0 ≤ s.toInt ∧ s.toInt ≤ 4 := by
  unfold fX8_refusedElement at f8
  rw [sh8_e, bs_1, decide_eq_true (show 0 ≤ (1 : Int32).toInt ∧ (1 : Int32).toInt ≤ 5 by decide), if_neg (show ¬ (true = false) by decide), if_neg (show ¬ (1 : Int32) = 0 by decide), if_pos (rfl : (1 : Int32) = 1)] at f8
  rcases H with ⟨h1, h2⟩ | ⟨h1, h2⟩ | ⟨h1, h2, h3, h4, h5⟩
  · rw [h1, if_pos rfl] at f8
    injection f8 with f8
    exact absurd f8 (by decide)
  · rw [h1, if_neg (show ¬ (1 : Int32) = 0 by decide), if_pos rfl] at f8
    injection f8 with f8
    exact absurd f8 (by decide)
  · exact ⟨h2, h3, h4⟩
theorem rf_h2 {x2 nb b : Int32} {v_shelves0_holds : Int32} {v_shelves0_size : Int32} {v_shelves1_holds : Int32} {v_shelves1_size : Int32} {v_shelves2_holds : Int32} {v_shelves2_size : Int32} {v_shelves3_holds : Int32} {v_shelves3_size : Int32} {v_shelves4_holds : Int32} {v_shelves4_size : Int32} {v_shelves5_holds : Int32} {v_shelves5_size : Int32} {s : Int32} {z : Int32} {shelf many : List Int32} (H : sc1 2 nb v_shelves2_holds b s z shelf many) (f8 : fX8_refusedElement 700 (2 : Int32) x2 v_shelves0_holds v_shelves0_size v_shelves1_holds v_shelves1_size v_shelves2_holds v_shelves2_size v_shelves3_holds v_shelves3_size v_shelves4_holds v_shelves4_size v_shelves5_holds v_shelves5_size = some (0 : Int32)) : mm_ig shelf 2 = (50 : Int32) + s ∧ 0 ≤ s.toInt ∧ s.toInt ≤ 4 := by
  unfold fX8_refusedElement at f8
  rw [sh8_e, bs_1, decide_eq_true (show 0 ≤ (2 : Int32).toInt ∧ (2 : Int32).toInt ≤ 5 by decide), if_neg (show ¬ (true = false) by decide), if_neg (show ¬ (2 : Int32) = 0 by decide), if_neg (show ¬ (2 : Int32) = 1 by decide), if_pos (rfl : (2 : Int32) = 2)] at f8
  rcases H with ⟨h1, h2⟩ | ⟨h1, h2⟩ | ⟨h1, h2, h3, h4, h5⟩
  · rw [h1, if_pos rfl] at f8
    injection f8 with f8
    exact absurd f8 (by decide)
  · rw [h1, if_neg (show ¬ (1 : Int32) = 0 by decide), if_pos rfl] at f8
    injection f8 with f8
    exact absurd f8 (by decide)
  · exact ⟨h2, h3, h4⟩
theorem rf_h3 {x2 nb b : Int32} {v_shelves0_holds : Int32} {v_shelves0_size : Int32} {v_shelves1_holds : Int32} {v_shelves1_size : Int32} {v_shelves2_holds : Int32} {v_shelves2_size : Int32} {v_shelves3_holds : Int32} {v_shelves3_size : Int32} {v_shelves4_holds : Int32} {v_shelves4_size : Int32} {v_shelves5_holds : Int32} {v_shelves5_size : Int32} {s : Int32} {z : Int32} {shelf many : List Int32} (H : sc1 3 nb v_shelves3_holds b s z shelf many) (f8 : fX8_refusedElement 700 (3 : Int32) x2 v_shelves0_holds v_shelves0_size v_shelves1_holds v_shelves1_size v_shelves2_holds v_shelves2_size v_shelves3_holds v_shelves3_size v_shelves4_holds v_shelves4_size v_shelves5_holds v_shelves5_size = some (0 : Int32)) : mm_ig shelf 3 = (50 : Int32) + s ∧ 0 ≤ s.toInt ∧ s.toInt ≤ 4 := by
  unfold fX8_refusedElement at f8
  rw [sh8_e, bs_1, decide_eq_true (show 0 ≤ (3 : Int32).toInt ∧ (3 : Int32).toInt ≤ 5 by decide), if_neg (show ¬ (true = false) by decide), if_neg (show ¬ (3 : Int32) = 0 by decide), if_neg (show ¬ (3 : Int32) = 1 by decide), if_neg (show ¬ (3 : Int32) = 2 by decide), if_pos (rfl : (3 : Int32) = 3)] at f8
  rcases H with ⟨h1, h2⟩ | ⟨h1, h2⟩ | ⟨h1, h2, h3, h4, h5⟩
  · rw [h1, if_pos rfl] at f8
    injection f8 with f8
    exact absurd f8 (by decide)
  · rw [h1, if_neg (show ¬ (1 : Int32) = 0 by decide), if_pos rfl] at f8
    injection f8 with f8
    exact absurd f8 (by decide)
  · exact ⟨h2, h3, h4⟩
theorem rf_h4 {x2 nb b : Int32} {v_shelves0_holds : Int32} {v_shelves0_size : Int32} {v_shelves1_holds : Int32} {v_shelves1_size : Int32} {v_shelves2_holds : Int32} {v_shelves2_size : Int32} {v_shelves3_holds : Int32} {v_shelves3_size : Int32} {v_shelves4_holds : Int32} {v_shelves4_size : Int32} {v_shelves5_holds : Int32} {v_shelves5_size : Int32} {s : Int32} {z : Int32} {shelf many : List Int32} (H : sc1 4 nb v_shelves4_holds b s z shelf many) (f8 : fX8_refusedElement 700 (4 : Int32) x2 v_shelves0_holds v_shelves0_size v_shelves1_holds v_shelves1_size v_shelves2_holds v_shelves2_size v_shelves3_holds v_shelves3_size v_shelves4_holds v_shelves4_size v_shelves5_holds v_shelves5_size = some (0 : Int32)) : mm_ig shelf 4 = (50 : Int32) + s ∧ 0 ≤ s.toInt ∧ s.toInt ≤ 4 := by
  unfold fX8_refusedElement at f8
  rw [sh8_e, bs_1, decide_eq_true (show 0 ≤ (4 : Int32).toInt ∧ (4 : Int32).toInt ≤ 5 by decide), if_neg (show ¬ (true = false) by decide), if_neg (show ¬ (4 : Int32) = 0 by decide), if_neg (show ¬ (4 : Int32) = 1 by decide), if_neg (show ¬ (4 : Int32) = 2 by decide), if_neg (show ¬ (4 : Int32) = 3 by decide), if_pos (rfl : (4 : Int32) = 4)] at f8
  rcases H with ⟨h1, h2⟩ | ⟨h1, h2⟩ | ⟨h1, h2, h3, h4, h5⟩
  · rw [h1, if_pos rfl] at f8
    injection f8 with f8
    exact absurd f8 (by decide)
  · rw [h1, if_neg (show ¬ (1 : Int32) = 0 by decide), if_pos rfl] at f8
    injection f8 with f8
    exact absurd f8 (by decide)
  · exact ⟨h2, h3, h4⟩
theorem rf_h5 {x2 nb b : Int32} {v_shelves0_holds : Int32} {v_shelves0_size : Int32} {v_shelves1_holds : Int32} {v_shelves1_size : Int32} {v_shelves2_holds : Int32} {v_shelves2_size : Int32} {v_shelves3_holds : Int32} {v_shelves3_size : Int32} {v_shelves4_holds : Int32} {v_shelves4_size : Int32} {v_shelves5_holds : Int32} {v_shelves5_size : Int32} {s : Int32} {z : Int32} {shelf many : List Int32} (H : sc1 5 nb v_shelves5_holds b s z shelf many) (f8 : fX8_refusedElement 700 (5 : Int32) x2 v_shelves0_holds v_shelves0_size v_shelves1_holds v_shelves1_size v_shelves2_holds v_shelves2_size v_shelves3_holds v_shelves3_size v_shelves4_holds v_shelves4_size v_shelves5_holds v_shelves5_size = some (0 : Int32)) : mm_ig shelf 5 = (50 : Int32) + s ∧ 0 ≤ s.toInt ∧ s.toInt ≤ 4 := by
  unfold fX8_refusedElement at f8
  rw [sh8_e, bs_1, decide_eq_true (show 0 ≤ (5 : Int32).toInt ∧ (5 : Int32).toInt ≤ 5 by decide), if_neg (show ¬ (true = false) by decide), if_neg (show ¬ (5 : Int32) = 0 by decide), if_neg (show ¬ (5 : Int32) = 1 by decide), if_neg (show ¬ (5 : Int32) = 2 by decide), if_neg (show ¬ (5 : Int32) = 3 by decide), if_neg (show ¬ (5 : Int32) = 4 by decide), if_pos (rfl : (5 : Int32) = 5)] at f8
  rcases H with ⟨h1, h2⟩ | ⟨h1, h2⟩ | ⟨h1, h2, h3, h4, h5⟩
  · rw [h1, if_pos rfl] at f8
    injection f8 with f8
    exact absurd f8 (by decide)
  · rw [h1, if_neg (show ¬ (1 : Int32) = 0 by decide), if_pos rfl] at f8
    injection f8 with f8
    exact absurd f8 (by decide)
  · exact ⟨h2, h3, h4⟩
set_option maxHeartbeats 4000000 in
theorem rs_put_it {x1 : Int32} {x2 : Int32} {x3 : Int64} {v_shelves0_holds : Int32} {v_shelves0_sort : Int32} {v_shelves0_size : Int32} {v_shelves0_items : List Int64} {v_shelves1_holds : Int32} {v_shelves1_sort : Int32} {v_shelves1_size : Int32} {v_shelves1_items : List Int64} {v_shelves2_holds : Int32} {v_shelves2_sort : Int32} {v_shelves2_size : Int32} {v_shelves2_items : List Int64} {v_shelves3_holds : Int32} {v_shelves3_sort : Int32} {v_shelves3_size : Int32} {v_shelves3_items : List Int64} {v_shelves4_holds : Int32} {v_shelves4_sort : Int32} {v_shelves4_size : Int32} {v_shelves4_items : List Int64} {v_shelves5_holds : Int32} {v_shelves5_sort : Int32} {v_shelves5_size : Int32} {v_shelves5_items : List Int64} {v_foldings_size : Int32} {v_shelves0_body : Int32} {v_shelves1_body : Int32} {v_shelves2_body : Int32} {v_shelves3_body : Int32} {v_shelves4_body : Int32} {v_shelves5_body : Int32} {m_shelf : List Int32} {m_many : List Int32} {m_items : List Int64} {m_carried : List Int64} (g8_0 : gi_sf v_shelves0_size v_shelves0_items) (g8_1 : gi_sf v_shelves1_size v_shelves1_items) (g8_2 : gi_sf v_shelves2_size v_shelves2_items) (g8_3 : gi_sf v_shelves3_size v_shelves3_items) (g8_4 : gi_sf v_shelves4_size v_shelves4_items) (g8_5 : gi_sf v_shelves5_size v_shelves5_items) (g9_0 : gm_sf m_shelf m_many m_items m_carried) (hr_0 : rl_sc v_foldings_size v_shelves0_holds v_shelves0_body v_shelves0_sort v_shelves0_size v_shelves1_holds v_shelves1_body v_shelves1_sort v_shelves1_size v_shelves2_holds v_shelves2_body v_shelves2_sort v_shelves2_size v_shelves3_holds v_shelves3_body v_shelves3_sort v_shelves3_size v_shelves4_holds v_shelves4_body v_shelves4_sort v_shelves4_size v_shelves5_holds v_shelves5_body v_shelves5_sort v_shelves5_size m_shelf m_many) (hr_1 : rl_it v_shelves0_items v_shelves1_items v_shelves2_items v_shelves3_items v_shelves4_items v_shelves5_items m_items) : ∃ (r : Int32) (p_shelves0_items : List Int64) (p_shelves1_items : List Int64) (p_shelves2_items : List Int64) (p_shelves3_items : List Int64) (p_shelves4_items : List Int64) (p_shelves5_items : List Int64) (q_items : List Int64), fX8_put 700 x1 x2 x3 v_shelves0_holds v_shelves0_sort v_shelves0_size v_shelves0_items v_shelves1_holds v_shelves1_sort v_shelves1_size v_shelves1_items v_shelves2_holds v_shelves2_sort v_shelves2_size v_shelves2_items v_shelves3_holds v_shelves3_sort v_shelves3_size v_shelves3_items v_shelves4_holds v_shelves4_sort v_shelves4_size v_shelves4_items v_shelves5_holds v_shelves5_sort v_shelves5_size v_shelves5_items = some (r, p_shelves0_items, p_shelves1_items, p_shelves2_items, p_shelves3_items, p_shelves4_items, p_shelves5_items) ∧ fX9_put 700 x1 x2 x3 m_shelf m_many m_items = some (r, q_items) ∧ gi_sf v_shelves0_size p_shelves0_items ∧ gi_sf v_shelves1_size p_shelves1_items ∧ gi_sf v_shelves2_size p_shelves2_items ∧ gi_sf v_shelves3_size p_shelves3_items ∧ gi_sf v_shelves4_size p_shelves4_items ∧ gi_sf v_shelves5_size p_shelves5_items ∧ gm_sf m_shelf m_many q_items m_carried ∧ rl_sc v_foldings_size v_shelves0_holds v_shelves0_body v_shelves0_sort v_shelves0_size v_shelves1_holds v_shelves1_body v_shelves1_sort v_shelves1_size v_shelves2_holds v_shelves2_body v_shelves2_sort v_shelves2_size v_shelves3_holds v_shelves3_body v_shelves3_sort v_shelves3_size v_shelves4_holds v_shelves4_body v_shelves4_sort v_shelves4_size v_shelves5_holds v_shelves5_body v_shelves5_sort v_shelves5_size m_shelf m_many ∧ rl_it p_shelves0_items p_shelves1_items p_shelves2_items p_shelves3_items p_shelves4_items p_shelves5_items q_items := by
  obtain ⟨b0, b1, b2, b3, b4⟩ := id g9_0
  obtain ⟨a0, d0, l0⟩ := id g8_0
  obtain ⟨a1, d1, l1⟩ := id g8_1
  obtain ⟨a2, d2, l2⟩ := id g8_2
  obtain ⟨a3, d3, l3⟩ := id g8_3
  obtain ⟨a4, d4, l4⟩ := id g8_4
  obtain ⟨a5, d5, l5⟩ := id g8_5
  obtain ⟨c0, c1, c2, c3, c4, c5⟩ := id hr_0
  obtain ⟨t0, t1, t2, t3, t4, t5⟩ := id hr_1
  have tf : ¬ (true = false) := by decide
  have n60 : (60 : Int32).toInt = 60 := by decide
  obtain ⟨w, f8, f9, hw⟩ := rf_e (x1 := x1) (x2 := x2) b0 b1 a0 d0 a1 d1 a2 d2 a3 d3 a4 d4 a5 d5 hr_0
  obtain ⟨⟨r8, p0, p1, p2, p3, p4, p5⟩, e8, -⟩ := st8_put (x1 := x1) (x2 := x2) (x3 := x3) (v_shelves0_holds := v_shelves0_holds) (v_shelves0_sort := v_shelves0_sort) (v_shelves1_holds := v_shelves1_holds) (v_shelves1_sort := v_shelves1_sort) (v_shelves2_holds := v_shelves2_holds) (v_shelves2_sort := v_shelves2_sort) (v_shelves3_holds := v_shelves3_holds) (v_shelves3_sort := v_shelves3_sort) (v_shelves4_holds := v_shelves4_holds) (v_shelves4_sort := v_shelves4_sort) (v_shelves5_holds := v_shelves5_holds) (v_shelves5_sort := v_shelves5_sort) g8_0 g8_1 g8_2 g8_3 g8_4 g8_5
  have X : ∃ (r : Int32) (p0 p1 p2 p3 p4 p5 q : List Int64), fX8_put 700 x1 x2 x3 v_shelves0_holds v_shelves0_sort v_shelves0_size v_shelves0_items v_shelves1_holds v_shelves1_sort v_shelves1_size v_shelves1_items v_shelves2_holds v_shelves2_sort v_shelves2_size v_shelves2_items v_shelves3_holds v_shelves3_sort v_shelves3_size v_shelves3_items v_shelves4_holds v_shelves4_sort v_shelves4_size v_shelves4_items v_shelves5_holds v_shelves5_sort v_shelves5_size v_shelves5_items = some (r, p0, p1, p2, p3, p4, p5) ∧ fX9_put 700 x1 x2 x3 m_shelf m_many m_items = some (r, q) ∧ rl_it p0 p1 p2 p3 p4 p5 q := by
    have g8 := e8
    clear e8
    unfold fX8_put at g8
    rw [f8, bs_1] at g8
    unfold fX8_put fX9_put
    rw [f8, f9, bs_1, bs_1]
    by_cases h : w = 0
    · rw [if_pos h] at g8
      rw [if_pos h, if_pos h]
      subst h
      have hx := hw rfl
      rcases k6 hx.1 hx.2 with rfl | rfl | rfl | rfl | rfl | rfl
      · rw [if_pos (rfl : (0 : Int32) = 0)] at g8
        rw [if_pos (rfl : (0 : Int32) = 0)]
        obtain ⟨u0, u1, u2⟩ := rf_h0 c0 f8
        unfold fX6_store at g8 ⊢
        obtain ⟨b, eb, -⟩ := sf_X6_lowestBits (Nat.le_refl 700) (x1 := x3) (v_sort := v_shelves0_sort)
        rw [eb, bs_1] at g8
        obtain ⟨v, ev, -⟩ := bi_1 g8
        have hb := inb_c (ck_c ev)
        have nk : (0 : Int32).toInt = 0 := by decide
        rw [show ((60 : Int32) * (0 : Int32)) = (0 : Int32) by decide]
        generalize hzz : (0 : Int32) + x2 = z
        have ez := i_addE hzz (by omega) (by omega)
        have hz : z.toInt = 60 * ((0 : Nat) : Int) + x2.toInt := by omega
        rw [ck_t (i_inb hx.1 (by omega)), u0, as_e u1 u2, eb, bs_1, bs_1, ck_t (ck_c ev), nm_eq, bs_1, ck_t (i_inb (by omega) (by omega)), nm_eq]
        unfold fX9_put_37
        rw [if_pos (rfl : (0 : Int32) = 0)]
        exact ⟨_, _, _, _, _, _, _, _, rfl, rfl, ⟨it_ls hz hb.1 (by omega) l0 b2 (by decide) t0, it_ln hz hb.1 (by omega) b2 (by decide) (by decide) t1, it_ln hz hb.1 (by omega) b2 (by decide) (by decide) t2, it_ln hz hb.1 (by omega) b2 (by decide) (by decide) t3, it_ln hz hb.1 (by omega) b2 (by decide) (by decide) t4, it_ln hz hb.1 (by omega) b2 (by decide) (by decide) t5⟩⟩
      · rw [if_neg (show ¬ (1 : Int32) = 0 by decide), if_pos (rfl : (1 : Int32) = 1)] at g8
        rw [if_neg (show ¬ (1 : Int32) = 0 by decide), if_pos (rfl : (1 : Int32) = 1)]
        obtain ⟨u0, u1, u2⟩ := rf_h1 c1 f8
        unfold fX6_store at g8 ⊢
        obtain ⟨b, eb, -⟩ := sf_X6_lowestBits (Nat.le_refl 700) (x1 := x3) (v_sort := v_shelves1_sort)
        rw [eb, bs_1] at g8
        obtain ⟨v, ev, -⟩ := bi_1 g8
        have hb := inb_c (ck_c ev)
        have nk : (60 : Int32).toInt = 60 := by decide
        rw [show ((60 : Int32) * (1 : Int32)) = (60 : Int32) by decide]
        generalize hzz : (60 : Int32) + x2 = z
        have ez := i_addE hzz (by omega) (by omega)
        have hz : z.toInt = 60 * ((1 : Nat) : Int) + x2.toInt := by omega
        rw [ck_t (i_inb hx.1 (by omega)), u0, as_e u1 u2, eb, bs_1, bs_1, ck_t (ck_c ev), nm_eq, bs_1, ck_t (i_inb (by omega) (by omega)), nm_eq]
        unfold fX9_put_37
        rw [if_pos (rfl : (0 : Int32) = 0)]
        exact ⟨_, _, _, _, _, _, _, _, rfl, rfl, ⟨it_ln hz hb.1 (by omega) b2 (by decide) (by decide) t0, it_ls hz hb.1 (by omega) l1 b2 (by decide) t1, it_ln hz hb.1 (by omega) b2 (by decide) (by decide) t2, it_ln hz hb.1 (by omega) b2 (by decide) (by decide) t3, it_ln hz hb.1 (by omega) b2 (by decide) (by decide) t4, it_ln hz hb.1 (by omega) b2 (by decide) (by decide) t5⟩⟩
      · rw [if_neg (show ¬ (2 : Int32) = 0 by decide), if_neg (show ¬ (2 : Int32) = 1 by decide), if_pos (rfl : (2 : Int32) = 2)] at g8
        rw [if_neg (show ¬ (2 : Int32) = 0 by decide), if_neg (show ¬ (2 : Int32) = 1 by decide), if_pos (rfl : (2 : Int32) = 2)]
        obtain ⟨u0, u1, u2⟩ := rf_h2 c2 f8
        unfold fX6_store at g8 ⊢
        obtain ⟨b, eb, -⟩ := sf_X6_lowestBits (Nat.le_refl 700) (x1 := x3) (v_sort := v_shelves2_sort)
        rw [eb, bs_1] at g8
        obtain ⟨v, ev, -⟩ := bi_1 g8
        have hb := inb_c (ck_c ev)
        have nk : (120 : Int32).toInt = 120 := by decide
        rw [show ((60 : Int32) * (2 : Int32)) = (120 : Int32) by decide]
        generalize hzz : (120 : Int32) + x2 = z
        have ez := i_addE hzz (by omega) (by omega)
        have hz : z.toInt = 60 * ((2 : Nat) : Int) + x2.toInt := by omega
        rw [ck_t (i_inb hx.1 (by omega)), u0, as_e u1 u2, eb, bs_1, bs_1, ck_t (ck_c ev), nm_eq, bs_1, ck_t (i_inb (by omega) (by omega)), nm_eq]
        unfold fX9_put_37
        rw [if_pos (rfl : (0 : Int32) = 0)]
        exact ⟨_, _, _, _, _, _, _, _, rfl, rfl, ⟨it_ln hz hb.1 (by omega) b2 (by decide) (by decide) t0, it_ln hz hb.1 (by omega) b2 (by decide) (by decide) t1, it_ls hz hb.1 (by omega) l2 b2 (by decide) t2, it_ln hz hb.1 (by omega) b2 (by decide) (by decide) t3, it_ln hz hb.1 (by omega) b2 (by decide) (by decide) t4, it_ln hz hb.1 (by omega) b2 (by decide) (by decide) t5⟩⟩
      · rw [if_neg (show ¬ (3 : Int32) = 0 by decide), if_neg (show ¬ (3 : Int32) = 1 by decide), if_neg (show ¬ (3 : Int32) = 2 by decide), if_pos (rfl : (3 : Int32) = 3)] at g8
        rw [if_neg (show ¬ (3 : Int32) = 0 by decide), if_neg (show ¬ (3 : Int32) = 1 by decide), if_neg (show ¬ (3 : Int32) = 2 by decide), if_pos (rfl : (3 : Int32) = 3)]
        obtain ⟨u0, u1, u2⟩ := rf_h3 c3 f8
        unfold fX6_store at g8 ⊢
        obtain ⟨b, eb, -⟩ := sf_X6_lowestBits (Nat.le_refl 700) (x1 := x3) (v_sort := v_shelves3_sort)
        rw [eb, bs_1] at g8
        obtain ⟨v, ev, -⟩ := bi_1 g8
        have hb := inb_c (ck_c ev)
        have nk : (180 : Int32).toInt = 180 := by decide
        rw [show ((60 : Int32) * (3 : Int32)) = (180 : Int32) by decide]
        generalize hzz : (180 : Int32) + x2 = z
        have ez := i_addE hzz (by omega) (by omega)
        have hz : z.toInt = 60 * ((3 : Nat) : Int) + x2.toInt := by omega
        rw [ck_t (i_inb hx.1 (by omega)), u0, as_e u1 u2, eb, bs_1, bs_1, ck_t (ck_c ev), nm_eq, bs_1, ck_t (i_inb (by omega) (by omega)), nm_eq]
        unfold fX9_put_37
        rw [if_pos (rfl : (0 : Int32) = 0)]
        exact ⟨_, _, _, _, _, _, _, _, rfl, rfl, ⟨it_ln hz hb.1 (by omega) b2 (by decide) (by decide) t0, it_ln hz hb.1 (by omega) b2 (by decide) (by decide) t1, it_ln hz hb.1 (by omega) b2 (by decide) (by decide) t2, it_ls hz hb.1 (by omega) l3 b2 (by decide) t3, it_ln hz hb.1 (by omega) b2 (by decide) (by decide) t4, it_ln hz hb.1 (by omega) b2 (by decide) (by decide) t5⟩⟩
      · rw [if_neg (show ¬ (4 : Int32) = 0 by decide), if_neg (show ¬ (4 : Int32) = 1 by decide), if_neg (show ¬ (4 : Int32) = 2 by decide), if_neg (show ¬ (4 : Int32) = 3 by decide), if_pos (rfl : (4 : Int32) = 4)] at g8
        rw [if_neg (show ¬ (4 : Int32) = 0 by decide), if_neg (show ¬ (4 : Int32) = 1 by decide), if_neg (show ¬ (4 : Int32) = 2 by decide), if_neg (show ¬ (4 : Int32) = 3 by decide), if_pos (rfl : (4 : Int32) = 4)]
        obtain ⟨u0, u1, u2⟩ := rf_h4 c4 f8
        unfold fX6_store at g8 ⊢
        obtain ⟨b, eb, -⟩ := sf_X6_lowestBits (Nat.le_refl 700) (x1 := x3) (v_sort := v_shelves4_sort)
        rw [eb, bs_1] at g8
        obtain ⟨v, ev, -⟩ := bi_1 g8
        have hb := inb_c (ck_c ev)
        have nk : (240 : Int32).toInt = 240 := by decide
        rw [show ((60 : Int32) * (4 : Int32)) = (240 : Int32) by decide]
        generalize hzz : (240 : Int32) + x2 = z
        have ez := i_addE hzz (by omega) (by omega)
        have hz : z.toInt = 60 * ((4 : Nat) : Int) + x2.toInt := by omega
        rw [ck_t (i_inb hx.1 (by omega)), u0, as_e u1 u2, eb, bs_1, bs_1, ck_t (ck_c ev), nm_eq, bs_1, ck_t (i_inb (by omega) (by omega)), nm_eq]
        unfold fX9_put_37
        rw [if_pos (rfl : (0 : Int32) = 0)]
        exact ⟨_, _, _, _, _, _, _, _, rfl, rfl, ⟨it_ln hz hb.1 (by omega) b2 (by decide) (by decide) t0, it_ln hz hb.1 (by omega) b2 (by decide) (by decide) t1, it_ln hz hb.1 (by omega) b2 (by decide) (by decide) t2, it_ln hz hb.1 (by omega) b2 (by decide) (by decide) t3, it_ls hz hb.1 (by omega) l4 b2 (by decide) t4, it_ln hz hb.1 (by omega) b2 (by decide) (by decide) t5⟩⟩
      · rw [if_neg (show ¬ (5 : Int32) = 0 by decide), if_neg (show ¬ (5 : Int32) = 1 by decide), if_neg (show ¬ (5 : Int32) = 2 by decide), if_neg (show ¬ (5 : Int32) = 3 by decide), if_neg (show ¬ (5 : Int32) = 4 by decide), if_pos (rfl : (5 : Int32) = 5)] at g8
        rw [if_neg (show ¬ (5 : Int32) = 0 by decide), if_neg (show ¬ (5 : Int32) = 1 by decide), if_neg (show ¬ (5 : Int32) = 2 by decide), if_neg (show ¬ (5 : Int32) = 3 by decide), if_neg (show ¬ (5 : Int32) = 4 by decide), if_pos (rfl : (5 : Int32) = 5)]
        obtain ⟨u0, u1, u2⟩ := rf_h5 c5 f8
        unfold fX6_store at g8 ⊢
        obtain ⟨b, eb, -⟩ := sf_X6_lowestBits (Nat.le_refl 700) (x1 := x3) (v_sort := v_shelves5_sort)
        rw [eb, bs_1] at g8
        obtain ⟨v, ev, -⟩ := bi_1 g8
        have hb := inb_c (ck_c ev)
        have nk : (300 : Int32).toInt = 300 := by decide
        rw [show ((60 : Int32) * (5 : Int32)) = (300 : Int32) by decide]
        generalize hzz : (300 : Int32) + x2 = z
        have ez := i_addE hzz (by omega) (by omega)
        have hz : z.toInt = 60 * ((5 : Nat) : Int) + x2.toInt := by omega
        rw [ck_t (i_inb hx.1 (by omega)), u0, as_e u1 u2, eb, bs_1, bs_1, ck_t (ck_c ev), nm_eq, bs_1, ck_t (i_inb (by omega) (by omega)), nm_eq]
        unfold fX9_put_37
        rw [if_pos (rfl : (0 : Int32) = 0)]
        exact ⟨_, _, _, _, _, _, _, _, rfl, rfl, ⟨it_ln hz hb.1 (by omega) b2 (by decide) (by decide) t0, it_ln hz hb.1 (by omega) b2 (by decide) (by decide) t1, it_ln hz hb.1 (by omega) b2 (by decide) (by decide) t2, it_ln hz hb.1 (by omega) b2 (by decide) (by decide) t3, it_ln hz hb.1 (by omega) b2 (by decide) (by decide) t4, it_ls hz hb.1 (by omega) l5 b2 (by decide) t5⟩⟩
    · rw [if_neg h, if_neg h]
      unfold fX9_put_37
      rw [if_neg h]
      exact ⟨_, _, _, _, _, _, _, _, rfl, rfl, hr_1⟩
  clear e8
  obtain ⟨r, p0, p1, p2, p3, p4, p5, q, e8, e9, R⟩ := X
  have k8 := wp_get (st8_put g8_0 g8_1 g8_2 g8_3 g8_4 g8_5) e8
  have k9 := wp_get (st9_put g9_0) e9
  exact ⟨_, _, _, _, _, _, _, _, e8, e9, k8.1, k8.2.1, k8.2.2.1, k8.2.2.2.1, k8.2.2.2.2.1, k8.2.2.2.2.2, k9, hr_0, R⟩
set_option maxHeartbeats 4000000 in
theorem rs_element_it {x1 : Int32} {x2 : Int32} {v_shelves0_holds : Int32} {v_shelves0_size : Int32} {v_shelves0_items : List Int64} {v_shelves1_holds : Int32} {v_shelves1_size : Int32} {v_shelves1_items : List Int64} {v_shelves2_holds : Int32} {v_shelves2_size : Int32} {v_shelves2_items : List Int64} {v_shelves3_holds : Int32} {v_shelves3_size : Int32} {v_shelves3_items : List Int64} {v_shelves4_holds : Int32} {v_shelves4_size : Int32} {v_shelves4_items : List Int64} {v_shelves5_holds : Int32} {v_shelves5_size : Int32} {v_shelves5_items : List Int64} {v_foldings_size : Int32} {v_shelves0_body : Int32} {v_shelves0_sort : Int32} {v_shelves1_body : Int32} {v_shelves1_sort : Int32} {v_shelves2_body : Int32} {v_shelves2_sort : Int32} {v_shelves3_body : Int32} {v_shelves3_sort : Int32} {v_shelves4_body : Int32} {v_shelves4_sort : Int32} {v_shelves5_body : Int32} {v_shelves5_sort : Int32} {m_shelf : List Int32} {m_many : List Int32} {m_items : List Int64} {m_carried : List Int64} (g8_0 : gi_sf v_shelves0_size v_shelves0_items) (g8_1 : gi_sf v_shelves1_size v_shelves1_items) (g8_2 : gi_sf v_shelves2_size v_shelves2_items) (g8_3 : gi_sf v_shelves3_size v_shelves3_items) (g8_4 : gi_sf v_shelves4_size v_shelves4_items) (g8_5 : gi_sf v_shelves5_size v_shelves5_items) (g9_0 : gm_sf m_shelf m_many m_items m_carried) (hr_0 : rl_sc v_foldings_size v_shelves0_holds v_shelves0_body v_shelves0_sort v_shelves0_size v_shelves1_holds v_shelves1_body v_shelves1_sort v_shelves1_size v_shelves2_holds v_shelves2_body v_shelves2_sort v_shelves2_size v_shelves3_holds v_shelves3_body v_shelves3_sort v_shelves3_size v_shelves4_holds v_shelves4_body v_shelves4_sort v_shelves4_size v_shelves5_holds v_shelves5_body v_shelves5_sort v_shelves5_size m_shelf m_many) (hr_1 : rl_it v_shelves0_items v_shelves1_items v_shelves2_items v_shelves3_items v_shelves4_items v_shelves5_items m_items) : ∃ (r : Int64), fX8_element 700 x1 x2 v_shelves0_holds v_shelves0_size v_shelves0_items v_shelves1_holds v_shelves1_size v_shelves1_items v_shelves2_holds v_shelves2_size v_shelves2_items v_shelves3_holds v_shelves3_size v_shelves3_items v_shelves4_holds v_shelves4_size v_shelves4_items v_shelves5_holds v_shelves5_size v_shelves5_items = some r ∧ fX9_element 700 x1 x2 m_shelf m_many m_items = some r ∧ rl_sc v_foldings_size v_shelves0_holds v_shelves0_body v_shelves0_sort v_shelves0_size v_shelves1_holds v_shelves1_body v_shelves1_sort v_shelves1_size v_shelves2_holds v_shelves2_body v_shelves2_sort v_shelves2_size v_shelves3_holds v_shelves3_body v_shelves3_sort v_shelves3_size v_shelves4_holds v_shelves4_body v_shelves4_sort v_shelves4_size v_shelves5_holds v_shelves5_body v_shelves5_sort v_shelves5_size m_shelf m_many ∧ rl_it v_shelves0_items v_shelves1_items v_shelves2_items v_shelves3_items v_shelves4_items v_shelves5_items m_items := by
  obtain ⟨b0, b1, b2, b3, b4⟩ := id g9_0
  obtain ⟨a0, d0, l0⟩ := id g8_0
  obtain ⟨a1, d1, l1⟩ := id g8_1
  obtain ⟨a2, d2, l2⟩ := id g8_2
  obtain ⟨a3, d3, l3⟩ := id g8_3
  obtain ⟨a4, d4, l4⟩ := id g8_4
  obtain ⟨a5, d5, l5⟩ := id g8_5
  obtain ⟨c0, c1, c2, c3, c4, c5⟩ := id hr_0
  obtain ⟨t0, t1, t2, t3, t4, t5⟩ := id hr_1
  have tf : ¬ (true = false) := by decide
  obtain ⟨w, f8, f9, hw⟩ := rf_e (x1 := x1) (x2 := x2) b0 b1 a0 d0 a1 d1 a2 d2 a3 d3 a4 d4 a5 d5 hr_0
  obtain ⟨r8, e8, -⟩ := st8_element (x1 := x1) (x2 := x2) (v_shelves0_holds := v_shelves0_holds) (v_shelves1_holds := v_shelves1_holds) (v_shelves2_holds := v_shelves2_holds) (v_shelves3_holds := v_shelves3_holds) (v_shelves4_holds := v_shelves4_holds) (v_shelves5_holds := v_shelves5_holds) g8_0 g8_1 g8_2 g8_3 g8_4 g8_5
  have X : ∃ r : Int64, fX8_element 700 x1 x2 v_shelves0_holds v_shelves0_size v_shelves0_items v_shelves1_holds v_shelves1_size v_shelves1_items v_shelves2_holds v_shelves2_size v_shelves2_items v_shelves3_holds v_shelves3_size v_shelves3_items v_shelves4_holds v_shelves4_size v_shelves4_items v_shelves5_holds v_shelves5_size v_shelves5_items = some r ∧ fX9_element 700 x1 x2 m_shelf m_many m_items = some r := by
    have g8 := e8
    clear e8
    unfold fX8_element at g8
    rw [f8, bs_1] at g8
    unfold fX8_element fX9_element
    rw [f8, f9, bs_1, bs_1]
    by_cases h : w = 0
    · rw [if_pos h] at g8
      rw [if_pos h, if_pos h]
      subst h
      have hx := hw rfl
      rcases k6 hx.1 hx.2 with rfl | rfl | rfl | rfl | rfl | rfl
      · rw [if_pos (rfl : (0 : Int32) = 0)] at g8
        rw [if_pos (rfl : (0 : Int32) = 0)]
        have hb := inb_c (ck_c g8)
        have nk : (0 : Int32).toInt = 0 := by decide
        rw [show ((60 : Int32) * (0 : Int32)) = (0 : Int32) by decide]
        generalize hzz : (0 : Int32) + x2 = z
        have ez := i_addE hzz (by omega) (by omega)
        have hz : z.toInt = 60 * ((0 : Nat) : Int) + x2.toInt := by omega
        rw [ck_t (ck_c g8), ck_t (i_inb (by omega) (by omega))]
        refine ⟨_, rfl, ?_⟩
        have q := t0 x2.toInt.toNat (by omega)
        have e2 : z.toInt.toNat = 60 * 0 + x2.toInt.toNat := by omega
        rw [← e2] at q
        exact congrArg some q
      · rw [if_neg (show ¬ (1 : Int32) = 0 by decide), if_pos (rfl : (1 : Int32) = 1)] at g8
        rw [if_neg (show ¬ (1 : Int32) = 0 by decide), if_pos (rfl : (1 : Int32) = 1)]
        have hb := inb_c (ck_c g8)
        have nk : (60 : Int32).toInt = 60 := by decide
        rw [show ((60 : Int32) * (1 : Int32)) = (60 : Int32) by decide]
        generalize hzz : (60 : Int32) + x2 = z
        have ez := i_addE hzz (by omega) (by omega)
        have hz : z.toInt = 60 * ((1 : Nat) : Int) + x2.toInt := by omega
        rw [ck_t (ck_c g8), ck_t (i_inb (by omega) (by omega))]
        refine ⟨_, rfl, ?_⟩
        have q := t1 x2.toInt.toNat (by omega)
        have e2 : z.toInt.toNat = 60 * 1 + x2.toInt.toNat := by omega
        rw [← e2] at q
        exact congrArg some q
      · rw [if_neg (show ¬ (2 : Int32) = 0 by decide), if_neg (show ¬ (2 : Int32) = 1 by decide), if_pos (rfl : (2 : Int32) = 2)] at g8
        rw [if_neg (show ¬ (2 : Int32) = 0 by decide), if_neg (show ¬ (2 : Int32) = 1 by decide), if_pos (rfl : (2 : Int32) = 2)]
        have hb := inb_c (ck_c g8)
        have nk : (120 : Int32).toInt = 120 := by decide
        rw [show ((60 : Int32) * (2 : Int32)) = (120 : Int32) by decide]
        generalize hzz : (120 : Int32) + x2 = z
        have ez := i_addE hzz (by omega) (by omega)
        have hz : z.toInt = 60 * ((2 : Nat) : Int) + x2.toInt := by omega
        rw [ck_t (ck_c g8), ck_t (i_inb (by omega) (by omega))]
        refine ⟨_, rfl, ?_⟩
        have q := t2 x2.toInt.toNat (by omega)
        have e2 : z.toInt.toNat = 60 * 2 + x2.toInt.toNat := by omega
        rw [← e2] at q
        exact congrArg some q
      · rw [if_neg (show ¬ (3 : Int32) = 0 by decide), if_neg (show ¬ (3 : Int32) = 1 by decide), if_neg (show ¬ (3 : Int32) = 2 by decide), if_pos (rfl : (3 : Int32) = 3)] at g8
        rw [if_neg (show ¬ (3 : Int32) = 0 by decide), if_neg (show ¬ (3 : Int32) = 1 by decide), if_neg (show ¬ (3 : Int32) = 2 by decide), if_pos (rfl : (3 : Int32) = 3)]
        have hb := inb_c (ck_c g8)
        have nk : (180 : Int32).toInt = 180 := by decide
        rw [show ((60 : Int32) * (3 : Int32)) = (180 : Int32) by decide]
        generalize hzz : (180 : Int32) + x2 = z
        have ez := i_addE hzz (by omega) (by omega)
        have hz : z.toInt = 60 * ((3 : Nat) : Int) + x2.toInt := by omega
        rw [ck_t (ck_c g8), ck_t (i_inb (by omega) (by omega))]
        refine ⟨_, rfl, ?_⟩
        have q := t3 x2.toInt.toNat (by omega)
        have e2 : z.toInt.toNat = 60 * 3 + x2.toInt.toNat := by omega
        rw [← e2] at q
        exact congrArg some q
      · rw [if_neg (show ¬ (4 : Int32) = 0 by decide), if_neg (show ¬ (4 : Int32) = 1 by decide), if_neg (show ¬ (4 : Int32) = 2 by decide), if_neg (show ¬ (4 : Int32) = 3 by decide), if_pos (rfl : (4 : Int32) = 4)] at g8
        rw [if_neg (show ¬ (4 : Int32) = 0 by decide), if_neg (show ¬ (4 : Int32) = 1 by decide), if_neg (show ¬ (4 : Int32) = 2 by decide), if_neg (show ¬ (4 : Int32) = 3 by decide), if_pos (rfl : (4 : Int32) = 4)]
        have hb := inb_c (ck_c g8)
        have nk : (240 : Int32).toInt = 240 := by decide
        rw [show ((60 : Int32) * (4 : Int32)) = (240 : Int32) by decide]
        generalize hzz : (240 : Int32) + x2 = z
        have ez := i_addE hzz (by omega) (by omega)
        have hz : z.toInt = 60 * ((4 : Nat) : Int) + x2.toInt := by omega
        rw [ck_t (ck_c g8), ck_t (i_inb (by omega) (by omega))]
        refine ⟨_, rfl, ?_⟩
        have q := t4 x2.toInt.toNat (by omega)
        have e2 : z.toInt.toNat = 60 * 4 + x2.toInt.toNat := by omega
        rw [← e2] at q
        exact congrArg some q
      · rw [if_neg (show ¬ (5 : Int32) = 0 by decide), if_neg (show ¬ (5 : Int32) = 1 by decide), if_neg (show ¬ (5 : Int32) = 2 by decide), if_neg (show ¬ (5 : Int32) = 3 by decide), if_neg (show ¬ (5 : Int32) = 4 by decide), if_pos (rfl : (5 : Int32) = 5)] at g8
        rw [if_neg (show ¬ (5 : Int32) = 0 by decide), if_neg (show ¬ (5 : Int32) = 1 by decide), if_neg (show ¬ (5 : Int32) = 2 by decide), if_neg (show ¬ (5 : Int32) = 3 by decide), if_neg (show ¬ (5 : Int32) = 4 by decide), if_pos (rfl : (5 : Int32) = 5)]
        have hb := inb_c (ck_c g8)
        have nk : (300 : Int32).toInt = 300 := by decide
        rw [show ((60 : Int32) * (5 : Int32)) = (300 : Int32) by decide]
        generalize hzz : (300 : Int32) + x2 = z
        have ez := i_addE hzz (by omega) (by omega)
        have hz : z.toInt = 60 * ((5 : Nat) : Int) + x2.toInt := by omega
        rw [ck_t (ck_c g8), ck_t (i_inb (by omega) (by omega))]
        refine ⟨_, rfl, ?_⟩
        have q := t5 x2.toInt.toNat (by omega)
        have e2 : z.toInt.toNat = 60 * 5 + x2.toInt.toNat := by omega
        rw [← e2] at q
        exact congrArg some q
    · rw [if_neg h, if_neg h]
      exact ⟨_, rfl, rfl⟩
  obtain ⟨r, f8', f9'⟩ := X
  exact ⟨_, f8', f9', hr_0, hr_1⟩
