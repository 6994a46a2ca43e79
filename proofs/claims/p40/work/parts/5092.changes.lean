/-! limit, undo, redo: one step -/
theorem rs_limit {x1 v_changes_value v_changes_done v_changes_size : Int32} {v_changes_before v_changes_after : List Int32} {m_keptMany m_done : Int32} {m_limit m_changeWas m_changeIs : List Int32} (g8 : gi_ch v_changes_done v_changes_size v_changes_before v_changes_after) (g9 : gm_ch m_keptMany m_done m_limit m_changeWas m_changeIs) (hr : rl_ch v_changes_value v_changes_done v_changes_size v_changes_before v_changes_after m_keptMany m_done m_limit m_changeWas m_changeIs) : ∃ (r p_value p_done p_size : Int32) (p_before p_after : List Int32) (q_keptMany q_done : Int32) (q_limit q_changeWas q_changeIs : List Int32), fX8_limit 700 x1 v_changes_value v_changes_done v_changes_size v_changes_before v_changes_after = some (r, p_value, p_done, p_size, p_before, p_after) ∧ fX9_limit 700 x1 m_keptMany m_done m_limit m_changeWas m_changeIs = some (r, q_keptMany, q_done, q_limit, q_changeWas, q_changeIs) ∧ gi_ch p_done p_size p_before p_after ∧ gm_ch q_keptMany q_done q_limit q_changeWas q_changeIs ∧ rl_ch p_value p_done p_size p_before p_after q_keptMany q_done q_limit q_changeWas q_changeIs := by
  obtain ⟨rfl, rfl, rfl, rfl, rfl⟩ := hr
  obtain ⟨r, v', d', s', b', a', e8, e9⟩ := rc_limit (x := x1) (v := v_changes_value) g8
  have q8 := wp_get (st8_limit (v_changes_value := v_changes_value) g8) e8
  have q9 := wp_get (st9_limit g9) e9
  exact ⟨_, _, _, _, _, _, _, _, _, _, _, e8, e9, q8, q9, rl_same⟩
theorem rs_undo {v_changes_value v_changes_done v_changes_size : Int32} {v_changes_before v_changes_after : List Int32} {m_keptMany m_done : Int32} {m_limit m_changeWas m_changeIs : List Int32} (g8 : gi_ch v_changes_done v_changes_size v_changes_before v_changes_after) (g9 : gm_ch m_keptMany m_done m_limit m_changeWas m_changeIs) (hr : rl_ch v_changes_value v_changes_done v_changes_size v_changes_before v_changes_after m_keptMany m_done m_limit m_changeWas m_changeIs) : ∃ (r p_value p_done q_done : Int32) (q_limit : List Int32), fX8_undo 700 v_changes_value v_changes_done v_changes_before = some (r, p_value, p_done) ∧ fX9_undo 700 m_done m_limit m_changeWas = some (r, q_done, q_limit) ∧ gi_ch p_done v_changes_size v_changes_before v_changes_after ∧ gm_ch m_keptMany q_done q_limit m_changeWas m_changeIs ∧ rl_ch p_value p_done v_changes_size v_changes_before v_changes_after m_keptMany q_done q_limit m_changeWas m_changeIs := by
  obtain ⟨rfl, rfl, rfl, rfl, rfl⟩ := hr
  obtain ⟨r, v', d', e8, e9⟩ := rc_undo (v := v_changes_value) g8
  have q8 := wp_get (st8_undo (v_changes_value := v_changes_value) g8) e8
  have q9 := wp_get (st9_undo g9) e9
  exact ⟨_, _, _, _, _, e8, e9, q8, q9, rl_same⟩
theorem rs_redo {v_changes_value v_changes_done v_changes_size : Int32} {v_changes_before v_changes_after : List Int32} {m_keptMany m_done : Int32} {m_limit m_changeWas m_changeIs : List Int32} (g8 : gi_ch v_changes_done v_changes_size v_changes_before v_changes_after) (g9 : gm_ch m_keptMany m_done m_limit m_changeWas m_changeIs) (hr : rl_ch v_changes_value v_changes_done v_changes_size v_changes_before v_changes_after m_keptMany m_done m_limit m_changeWas m_changeIs) : ∃ (r p_value p_done q_done : Int32) (q_limit : List Int32), fX8_redo 700 v_changes_value v_changes_done v_changes_size v_changes_after = some (r, p_value, p_done) ∧ fX9_redo 700 m_keptMany m_done m_limit m_changeIs = some (r, q_done, q_limit) ∧ gi_ch p_done v_changes_size v_changes_before v_changes_after ∧ gm_ch m_keptMany q_done q_limit m_changeWas m_changeIs ∧ rl_ch p_value p_done v_changes_size v_changes_before v_changes_after m_keptMany q_done q_limit m_changeWas m_changeIs := by
  obtain ⟨rfl, rfl, rfl, rfl, rfl⟩ := hr
  obtain ⟨c0, c1, c2, c3, c4, c5, c6, c7⟩ := id g9
  obtain ⟨r, v', d', e8, e9⟩ := rc_redo (v := v_changes_value) g8 (by assumption)
  have q8 := wp_get (st8_redo (v_changes_value := v_changes_value) g8) e8
  have q9 := wp_get (st9_redo g9) e9
  exact ⟨_, _, _, _, _, e8, e9, q8, q9, rl_same⟩
theorem nw_ch9 : rl_ch 20 0 0 (mm_zs 40) (mm_zs 40) 0 0 z9_limit (mm_zs 40) (mm_zs 40) := ⟨rfl, rfl, by decide +kernel, rfl, rfl⟩
