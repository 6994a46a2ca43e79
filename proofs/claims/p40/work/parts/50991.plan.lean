/-! plan -/
def rl_pl (v_planned_size : Int32) (v_planned_lines : List Int32) (v_planned_ways : List Int32) (m_planned : Int32) (m_planLine : List Int32) (m_planWay : List Int32) : Prop := m_planned = v_planned_size ∧ m_planLine = v_planned_lines ∧ m_planWay = v_planned_ways
theorem wn_e (a l h : Int64) : fX9_within 700 a l h = some (decide (l.toInt ≤ a.toInt ∧ a.toInt ≤ h.toInt)) := by
  obtain ⟨w, ew, qw⟩ := sf_X9_within (Nat.le_refl 700) (x0 := a) (x2 := l) (x4 := h)
  rw [ew]
  rcases qw with ⟨rfl, q0, q1⟩ | ⟨rfl, q0⟩
  · rw [decide_eq_true ⟨q0, q1⟩]
  · rw [decide_eq_false (by omega)]
theorem pf_e (a b : Int64) : fX8_isPlannedFold 700 a b = some (decide ((1 ≤ a.toInt ∧ a.toInt ≤ 7) ∧ (0 ≤ b.toInt ∧ b.toInt ≤ 7))) := by
  have m0 : (0 : Int64).toInt = 0 := by decide
  have m1 : (1 : Int64).toInt = 1 := by decide
  have m7 : (7 : Int64).toInt = 7 := by decide
  have m8 : (8 : Int64).toInt = 8 := by decide
  unfold fX8_isPlannedFold
  by_cases c1 : lg_cmp a (1 : Int64) < 0
  · have d := (lg_neg _ _).mp c1
    rw [if_pos c1, decide_eq_false (by omega)]
  · have d1 : ¬ a.toInt < (1 : Int64).toInt := fun k => c1 ((lg_neg _ _).mpr k)
    rw [if_neg c1]
    by_cases c2 : 0 < lg_cmp a (7 : Int64)
    · have d := (lg_pos _ _).mp c2
      rw [if_pos c2, decide_eq_false (by omega)]
    · have d2 : ¬ (7 : Int64).toInt < a.toInt := fun k => c2 ((lg_pos _ _).mpr k)
      rw [if_neg c2]
      by_cases c3 : lg_cmp b (0 : Int64) < 0
      · have d := (lg_neg _ _).mp c3
        rw [if_pos c3, decide_eq_false (by omega)]
      · have d3 : ¬ b.toInt < (0 : Int64).toInt := fun k => c3 ((lg_neg _ _).mpr k)
        rw [if_neg c3]
        by_cases c4 : 0 ≤ lg_cmp b (8 : Int64)
        · have d4 : ¬ b.toInt < (8 : Int64).toInt := fun k => absurd (i_lt ((lg_neg _ _).mpr k)) (Int.not_lt.mpr (i_le c4))
          rw [if_pos c4, decide_eq_false (by omega)]
        · have d4 := (lg_neg _ _).mp (Int32.lt_iff_toInt_lt.mpr (i_nle c4))
          rw [if_neg c4, decide_eq_true (by omega)]
theorem ap_t {x y s : Int32} {ls ws : List Int32} (h0 : 0 ≤ s.toInt) (h1 : s.toInt < 12) (hl : ls.length = 12) (hw : ws.length = 12) : fX3_append 700 x y s ls ws = some (true, s + (1 : Int32), mm_is ls s x, mm_is ws s y) := by
  have n12 : (12 : Int32).toInt = 12 := by decide
  unfold fX3_append
  rw [if_pos (show s < (12 : Int32) by rw [Int32.lt_iff_toInt_lt]; omega), ck_t (i_inb h0 (by omega)), nm_eq, ck_t (i_inb h0 (by omega)), nm_eq, nm_eq]
theorem ap_f {x y s : Int32} {ls ws : List Int32} (h1 : 12 ≤ s.toInt) : fX3_append 700 x y s ls ws = some (false, s, ls, ws) := by
  have n12 : (12 : Int32).toInt = 12 := by decide
  unfold fX3_append
  rw [if_neg (show ¬ s < (12 : Int32) by rw [Int32.lt_iff_toInt_lt]; omega)]
theorem rs_plan {x1 : Int32} {x2 : Int32} {v_planned_size : Int32} {v_planned_lines : List Int32} {v_planned_ways : List Int32} {m_planned : Int32} {m_planLine : List Int32} {m_planWay : List Int32} (g8_0 : gi_pl v_planned_size v_planned_lines v_planned_ways) (g9_0 : gm_pl m_planned m_planLine m_planWay) (hr_0 : rl_pl v_planned_size v_planned_lines v_planned_ways m_planned m_planLine m_planWay) : ∃ (r : Int32) (p_planned_size : Int32) (p_planned_lines : List Int32) (p_planned_ways : List Int32) (q_planned : Int32) (q_planLine : List Int32) (q_planWay : List Int32), fX8_plan 700 x1 x2 v_planned_size v_planned_lines v_planned_ways = some (r, p_planned_size, p_planned_lines, p_planned_ways) ∧ fX9_plan 700 x1 x2 m_planned m_planLine m_planWay = some (r, q_planned, q_planLine, q_planWay) ∧ gi_pl p_planned_size p_planned_lines p_planned_ways ∧ gm_pl q_planned q_planLine q_planWay ∧ rl_pl p_planned_size p_planned_lines p_planned_ways q_planned q_planLine q_planWay := by
  obtain ⟨rfl, rfl, rfl⟩ := hr_0
  obtain ⟨a0, a1, a2, a3⟩ := id g8_0
  have tf : ¬ (true = false) := by decide
  have m0 : (0 : Int64).toInt = 0 := by decide
  have m1 : (1 : Int64).toInt = 1 := by decide
  have m7 : (7 : Int64).toInt = 7 := by decide
  have n12 : (12 : Int32).toInt = 12 := by decide
  have e1 := i_64 x1
  have e2 := i_64 x2
  have X : ∃ (r s : Int32) (l w : List Int32), fX8_plan 700 x1 x2 m_planned m_planLine m_planWay = some (r, s, l, w) ∧ fX9_plan 700 x1 x2 m_planned m_planLine m_planWay = some (r, s, l, w) := by
    unfold fX8_plan fX9_plan
    by_cases z : x1 = 0
    · rw [if_pos z, if_pos z]
      exact ⟨_, _, _, _, rfl, rfl⟩
    · rw [if_neg z, if_neg z, pf_e, wn_e, wn_e, bs_1, bs_1, e1, e2, m0, m1, m7]
      by_cases c1 : 1 ≤ x1.toInt ∧ x1.toInt ≤ 7
      · rw [decide_eq_true c1, if_neg tf, bs_1]
        by_cases c2 : 0 ≤ x2.toInt ∧ x2.toInt ≤ 7
        · rw [decide_eq_true c2, if_neg tf, decide_eq_true (show (1 ≤ x1.toInt ∧ x1.toInt ≤ 7) ∧ (0 ≤ x2.toInt ∧ x2.toInt ≤ 7) from ⟨c1, c2⟩), if_neg tf]
          by_cases f : m_planned = (12 : Int32)
          · rw [if_pos f, ap_f (by rw [f]; decide), bs_4, if_pos (rfl : false = false)]
            exact ⟨_, _, _, _, rfl, rfl⟩
          · have f' : m_planned.toInt < 12 := by
              by_cases q : m_planned.toInt < 12
              · exact q
              · exact absurd (Int32.toInt_inj.mp (show m_planned.toInt = (12 : Int32).toInt by omega)) f
            rw [if_neg f, ap_t a0 f' a2 a3, bs_4, if_neg tf, ck_t (i_inb a0 (by omega)), nm_eq, ck_t (i_inb a0 (by omega)), nm_eq, nm_eq]
            exact ⟨_, _, _, _, rfl, rfl⟩
        · rw [decide_eq_false c2, if_pos (rfl : false = false), decide_eq_false (show ¬ ((1 ≤ x1.toInt ∧ x1.toInt ≤ 7) ∧ (0 ≤ x2.toInt ∧ x2.toInt ≤ 7)) from fun h => c2 h.2), if_pos (rfl : false = false)]
          exact ⟨_, _, _, _, rfl, rfl⟩
      · rw [decide_eq_false c1, if_pos (rfl : false = false), decide_eq_false (show ¬ ((1 ≤ x1.toInt ∧ x1.toInt ≤ 7) ∧ (0 ≤ x2.toInt ∧ x2.toInt ≤ 7)) from fun h => c1 h.1), if_pos (rfl : false = false)]
        exact ⟨_, _, _, _, rfl, rfl⟩
  obtain ⟨r, s, l, w, e8, e9⟩ := X
  have k8 := wp_get (st8_plan g8_0) e8
  have k9 := wp_get (st9_plan g9_0) e9
  exact ⟨_, _, _, _, _, _, _, e8, e9, k8, k9, ⟨rfl, rfl, rfl⟩⟩
