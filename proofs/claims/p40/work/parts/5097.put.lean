/-! put -/
theorem ck_i {α : Type} {c : Bool} {x : Option α} {z : α} (h : mm_ck c x = some z) : x = some z := by
  unfold mm_ck at h
  by_cases hc : c = true
  · rw [if_pos hc] at h
    exact h
  · rw [if_neg hc] at h
    cases h
theorem bi_1 {α β : Type} {x : Option α} {k : α → Option β} {z : β} (h : mm_bd1 x k = some z) : ∃ t : α, x = some t ∧ k t = some z := by
  cases x with
  | none => exact absurd h (by intro h; cases h)
  | some t => exact ⟨t, rfl, h⟩
theorem rs_put {x1 : Int32} {x2 : Int32} {x3 : Int64} {v_shelves0_holds : Int32} {v_shelves0_sort : Int32} {v_shelves0_size : Int32} {v_shelves0_items : List Int64} {v_shelves1_holds : Int32} {v_shelves1_sort : Int32} {v_shelves1_size : Int32} {v_shelves1_items : List Int64} {v_shelves2_holds : Int32} {v_shelves2_sort : Int32} {v_shelves2_size : Int32} {v_shelves2_items : List Int64} {v_shelves3_holds : Int32} {v_shelves3_sort : Int32} {v_shelves3_size : Int32} {v_shelves3_items : List Int64} {v_shelves4_holds : Int32} {v_shelves4_sort : Int32} {v_shelves4_size : Int32} {v_shelves4_items : List Int64} {v_shelves5_holds : Int32} {v_shelves5_sort : Int32} {v_shelves5_size : Int32} {v_shelves5_items : List Int64} {v_foldings_size : Int32} {v_shelves0_body : Int32} {v_shelves1_body : Int32} {v_shelves2_body : Int32} {v_shelves3_body : Int32} {v_shelves4_body : Int32} {v_shelves5_body : Int32} {m_shelf : List Int32} {m_many : List Int32} {m_items : List Int64} {m_carried : List Int64} (g8_0 : gi_sf v_shelves0_size v_shelves0_items) (g8_1 : gi_sf v_shelves1_size v_shelves1_items) (g8_2 : gi_sf v_shelves2_size v_shelves2_items) (g8_3 : gi_sf v_shelves3_size v_shelves3_items) (g8_4 : gi_sf v_shelves4_size v_shelves4_items) (g8_5 : gi_sf v_shelves5_size v_shelves5_items) (g9_0 : gm_sf m_shelf m_many m_items m_carried) (hr_0 : rl_sc v_foldings_size v_shelves0_holds v_shelves0_body v_shelves0_sort v_shelves0_size v_shelves1_holds v_shelves1_body v_shelves1_sort v_shelves1_size v_shelves2_holds v_shelves2_body v_shelves2_sort v_shelves2_size v_shelves3_holds v_shelves3_body v_shelves3_sort v_shelves3_size v_shelves4_holds v_shelves4_body v_shelves4_sort v_shelves4_size v_shelves5_holds v_shelves5_body v_shelves5_sort v_shelves5_size m_shelf m_many) : ∃ (r : Int32) (p_shelves0_items : List Int64) (p_shelves1_items : List Int64) (p_shelves2_items : List Int64) (p_shelves3_items : List Int64) (p_shelves4_items : List Int64) (p_shelves5_items : List Int64) (q_items : List Int64), fX8_put 700 x1 x2 x3 v_shelves0_holds v_shelves0_sort v_shelves0_size v_shelves0_items v_shelves1_holds v_shelves1_sort v_shelves1_size v_shelves1_items v_shelves2_holds v_shelves2_sort v_shelves2_size v_shelves2_items v_shelves3_holds v_shelves3_sort v_shelves3_size v_shelves3_items v_shelves4_holds v_shelves4_sort v_shelves4_size v_shelves4_items v_shelves5_holds v_shelves5_sort v_shelves5_size v_shelves5_items = some (r, p_shelves0_items, p_shelves1_items, p_shelves2_items, p_shelves3_items, p_shelves4_items, p_shelves5_items) ∧ fX9_put 700 x1 x2 x3 m_shelf m_many m_items = some (r, q_items) ∧ gi_sf v_shelves0_size p_shelves0_items ∧ gi_sf v_shelves1_size p_shelves1_items ∧ gi_sf v_shelves2_size p_shelves2_items ∧ gi_sf v_shelves3_size p_shelves3_items ∧ gi_sf v_shelves4_size p_shelves4_items ∧ gi_sf v_shelves5_size p_shelves5_items ∧ gm_sf m_shelf m_many q_items m_carried ∧ rl_sc v_foldings_size v_shelves0_holds v_shelves0_body v_shelves0_sort v_shelves0_size v_shelves1_holds v_shelves1_body v_shelves1_sort v_shelves1_size v_shelves2_holds v_shelves2_body v_shelves2_sort v_shelves2_size v_shelves3_holds v_shelves3_body v_shelves3_sort v_shelves3_size v_shelves4_holds v_shelves4_body v_shelves4_sort v_shelves4_size v_shelves5_holds v_shelves5_body v_shelves5_sort v_shelves5_size m_shelf m_many := by
  obtain ⟨b0, b1, b2, b3, b4⟩ := id g9_0
  obtain ⟨a0, d0, l0⟩ := id g8_0
  obtain ⟨a1, d1, l1⟩ := id g8_1
  obtain ⟨a2, d2, l2⟩ := id g8_2
  obtain ⟨a3, d3, l3⟩ := id g8_3
  obtain ⟨a4, d4, l4⟩ := id g8_4
  obtain ⟨a5, d5, l5⟩ := id g8_5
  obtain ⟨w, f8, f9, hw⟩ := rf_e (x1 := x1) (x2 := x2) b0 b1 a0 d0 a1 d1 a2 d2 a3 d3 a4 d4 a5 d5 hr_0
  obtain ⟨⟨r8, p0, p1, p2, p3, p4, p5⟩, e8, -⟩ := st8_put (x1 := x1) (x2 := x2) (x3 := x3) (v_shelves0_holds := v_shelves0_holds) (v_shelves0_sort := v_shelves0_sort) (v_shelves1_holds := v_shelves1_holds) (v_shelves1_sort := v_shelves1_sort) (v_shelves2_holds := v_shelves2_holds) (v_shelves2_sort := v_shelves2_sort) (v_shelves3_holds := v_shelves3_holds) (v_shelves3_sort := v_shelves3_sort) (v_shelves4_holds := v_shelves4_holds) (v_shelves4_sort := v_shelves4_sort) (v_shelves5_holds := v_shelves5_holds) (v_shelves5_sort := v_shelves5_sort) g8_0 g8_1 g8_2 g8_3 g8_4 g8_5
  obtain ⟨⟨r9, q0⟩, e9, -⟩ := st9_put (x1 := x1) (x2 := x2) (x3 := x3)  g9_0
  have er : r9 = r8 := by
    have f8' := e8
    have f9' := e9
    unfold fX8_put at f8'
    unfold fX9_put fX9_put_37 at f9'
    rw [f8, bs_1] at f8'
    rw [f9, bs_1] at f9'
    clear e8 e9 f8 f9
    by_cases h : w = 0
    · simp only [if_pos h] at f8' f9'
      have h9 : r9 = (1 : Int32) := by
        have z := ck_i f9'
        obtain ⟨t, -, z⟩ := bi_1 z
        have z := ck_i z
        rw [nm_eq] at z
        injection z with z
        injection z with z0 z
        exact z0.symm
      have h8 : r8 = (1 : Int32) := by
        have hx := hw h
        rcases k6 hx.1 hx.2 with rfl | rfl | rfl | rfl | rfl | rfl
        · rw [if_pos (rfl : (0 : Int32) = 0)] at f8'
          obtain ⟨t, -, z⟩ := bi_1 f8'
          injection z with z
          injection z with z0 z
          exact z0.symm
        · rw [if_neg (show ¬ (1 : Int32) = 0 by decide), if_pos (rfl : (1 : Int32) = 1)] at f8'
          obtain ⟨t, -, z⟩ := bi_1 f8'
          injection z with z
          injection z with z0 z
          exact z0.symm
        · rw [if_neg (show ¬ (2 : Int32) = 0 by decide), if_neg (show ¬ (2 : Int32) = 1 by decide), if_pos (rfl : (2 : Int32) = 2)] at f8'
          obtain ⟨t, -, z⟩ := bi_1 f8'
          injection z with z
          injection z with z0 z
          exact z0.symm
        · rw [if_neg (show ¬ (3 : Int32) = 0 by decide), if_neg (show ¬ (3 : Int32) = 1 by decide), if_neg (show ¬ (3 : Int32) = 2 by decide), if_pos (rfl : (3 : Int32) = 3)] at f8'
          obtain ⟨t, -, z⟩ := bi_1 f8'
          injection z with z
          injection z with z0 z
          exact z0.symm
        · rw [if_neg (show ¬ (4 : Int32) = 0 by decide), if_neg (show ¬ (4 : Int32) = 1 by decide), if_neg (show ¬ (4 : Int32) = 2 by decide), if_neg (show ¬ (4 : Int32) = 3 by decide), if_pos (rfl : (4 : Int32) = 4)] at f8'
          obtain ⟨t, -, z⟩ := bi_1 f8'
          injection z with z
          injection z with z0 z
          exact z0.symm
        · rw [if_neg (show ¬ (5 : Int32) = 0 by decide), if_neg (show ¬ (5 : Int32) = 1 by decide), if_neg (show ¬ (5 : Int32) = 2 by decide), if_neg (show ¬ (5 : Int32) = 3 by decide), if_neg (show ¬ (5 : Int32) = 4 by decide), if_pos (rfl : (5 : Int32) = 5)] at f8'
          obtain ⟨t, -, z⟩ := bi_1 f8'
          injection z with z
          injection z with z0 z
          exact z0.symm
      rw [h8, h9]
    · simp only [if_neg h] at f8' f9'
      injection f8' with z
      injection z with z0 z
      injection f9' with y
      injection y with y0 y
      rw [← z0, ← y0]
  subst er
  have k8 := wp_get (st8_put g8_0 g8_1 g8_2 g8_3 g8_4 g8_5) e8
  have k9 := wp_get (st9_put g9_0) e9
  exact ⟨_, _, _, _, _, _, _, _, e8, e9, k8.1, k8.2.1, k8.2.2.1, k8.2.2.2.1, k8.2.2.2.2.1, k8.2.2.2.2.2, k9, hr_0⟩
