/-! feed, body, act, trace: class and reference alike -/
theorem wp_and {α : Type} {o : Option α} {P Q : α → Prop} (h : wp o P) (k : wp o Q) : wp o (fun a => P a ∧ Q a) := by
  obtain ⟨r, e, q⟩ := h
  exact ⟨r, e, q, wp_get k e⟩
theorem rc_feed {x s : Int32} {t : List Int32} (h0 : 0 ≤ s.toInt) (h1 : s.toInt ≤ 120) (ht : t.length = 120) : ∃ (r s' : Int32) (t' : List Int32), fX8_feed 700 x s t = some (r, s', t') ∧ fX9_feed 700 x s t = some (r, s', t') := by
  have n255 : (255 : Int32).toInt = 255 := by decide
  have n120 : (120 : Int32).toInt = 120 := by decide
  have n0 : (0 : Int32).toInt = 0 := by decide
  have m0 : (0 : Int64).toInt = 0 := by decide
  have m255 : (255 : Int64).toInt = 255 := by decide
  have mx := i_64 x
  unfold fX8_feed fX9_feed
  obtain ⟨w, ew, qw⟩ := sf_X9_within (Nat.le_refl 700) (x0 := x.toInt64) (x2 := 0) (x4 := 255)
  rw [ew, bs_1]
  rcases qw with ⟨rfl, q0, q1⟩ | ⟨rfl, q0⟩
  · rw [if_neg (show ¬ x < 0 by rw [Int32.lt_iff_toInt_lt]; omega), if_pos (show x ≤ (255 : Int32) by rw [Int32.le_iff_toInt_le]; omega), if_neg (show ¬ (true = false) by decide)]
    unfold fX2_write
    by_cases e : s = (120 : Int32)
    · rw [if_pos e, if_neg (show ¬ s < (120 : Int32) by rw [Int32.lt_iff_toInt_lt, e]; omega), bs_3, if_pos rfl]
      exact ⟨_, _, _, rfl, rfl⟩
    · have hs : s.toInt < 120 := by
        have : s.toInt ≠ 120 := fun h => e (Int32.toInt_inj.mp (by omega))
        omega
      rw [if_neg e, if_pos (show s < (120 : Int32) by rw [Int32.lt_iff_toInt_lt]; omega), ck_t (i_inb (by omega) (by omega)), nm_eq, nm_eq, bs_3, if_neg (show ¬ (true = false) by decide), ck_t (i_inb (by omega) (by omega)), nm_eq, nm_eq]
      exact ⟨_, _, _, rfl, rfl⟩
  · rw [if_pos rfl]
    by_cases c : x < 0
    · rw [if_pos c]
      exact ⟨_, _, _, rfl, rfl⟩
    · rw [if_neg c, if_neg (show ¬ x ≤ (255 : Int32) by rw [Int32.lt_iff_toInt_lt] at c; rw [Int32.le_iff_toInt_le]; omega)]
      exact ⟨_, _, _, rfl, rfl⟩
theorem rc_body {x s : Int32} {t : List Int32} (h0 : 0 ≤ s.toInt) (h1 : s.toInt ≤ 50) (ht : t.length = 50) : ∃ (r s' : Int32) (t' : List Int32), fX8_body 700 x s t = some (r, s', t') ∧ fX9_body 700 x s t = some (r, s', t') ∧ s.toInt ≤ s'.toInt := by
  have n8 : (8 : Int32).toInt = 8 := by decide
  have n1 : (1 : Int32).toInt = 1 := by decide
  have n50 : (50 : Int32).toInt = 50 := by decide
  have n0 : (0 : Int32).toInt = 0 := by decide
  have m0 : (0 : Int64).toInt = 0 := by decide
  have m7 : (7 : Int64).toInt = 7 := by decide
  have mx := i_64 x
  unfold fX8_body fX9_body
  obtain ⟨w, ew, qw⟩ := sf_X9_within (Nat.le_refl 700) (x0 := x.toInt64) (x2 := 0) (x4 := 7)
  rw [ew, bs_1]
  rcases qw with ⟨rfl, q0, q1⟩ | ⟨rfl, q0⟩
  · rw [if_neg (show ¬ x < 0 by rw [Int32.lt_iff_toInt_lt]; omega), if_pos (show x < (8 : Int32) by rw [Int32.lt_iff_toInt_lt]; omega), if_neg (show ¬ (true = false) by decide)]
    unfold fX1_make
    by_cases e : s = (50 : Int32)
    · rw [if_pos e, if_neg (show ¬ s < (50 : Int32) by rw [Int32.lt_iff_toInt_lt, e]; omega), bs_3, if_pos rfl]
      exact ⟨_, _, _, rfl, rfl, Int.le_refl _⟩
    · have hs : s.toInt < 50 := by
        have : s.toInt ≠ 50 := fun h => e (Int32.toInt_inj.mp (by omega))
        omega
      rw [if_neg e, if_pos (show s < (50 : Int32) by rw [Int32.lt_iff_toInt_lt]; omega), ck_t (i_inb (by omega) (by omega)), nm_eq, nm_eq, bs_3, if_neg (show ¬ (true = false) by decide), ck_t (i_inb (by omega) (by omega)), nm_eq, nm_eq]
      exact ⟨_, _, _, rfl, rfl, by rw [i_addE rfl (by rw [n1]; omega) (by rw [n1]; omega), n1]; omega⟩
  · rw [if_pos rfl]
    by_cases c : x < 0
    · rw [if_pos c]
      exact ⟨_, _, _, rfl, rfl, Int.le_refl _⟩
    · rw [if_neg c, if_neg (show ¬ x < (8 : Int32) by rw [Int32.lt_iff_toInt_lt] at c ⊢; omega)]
      exact ⟨_, _, _, rfl, rfl, Int.le_refl _⟩
theorem rc_trace {x n : Int32} {t : List Int32} (ht : t.length = 24) : ∃ r : Int32, fX8_trace 700 x n t = some r ∧ fX9_trace 700 x n t = some r := by
  have n24 : (24 : Int32).toInt = 24 := by decide
  have n0 : (0 : Int32).toInt = 0 := by decide
  unfold fX8_trace fX9_trace fX1_traced
  by_cases c : x < 0
  · rw [if_pos c, if_pos c, bs_1]
    exact ⟨_, rfl, rfl⟩
  · rw [if_neg c, if_neg c]
    by_cases d : (24 : Int32) ≤ x
    · rw [if_pos d, if_pos d, bs_1]
      by_cases e : n ≤ x
      · rw [if_pos e]
        exact ⟨_, rfl, rfl⟩
      · rw [if_neg e]
        exact ⟨_, rfl, rfl⟩
    · rw [if_neg d, if_neg d]
      by_cases e : n ≤ x
      · rw [if_pos e, bs_1]
        exact ⟨_, rfl, rfl⟩
      · have k : mm_inb x t.length = true := i_inb (by rw [Int32.lt_iff_toInt_lt] at c; omega) (by rw [Int32.le_iff_toInt_le] at d; omega)
        rw [if_neg e, ck_t k, bs_1]
        exact ⟨_, rfl, rfl⟩
theorem rc_act {x1 x2 x3 s ran number own num : Int32} {kinds trace : List Int32} (g : gi_fo s kinds trace) : ∃ (r c n k b : Int32) (t : List Int32), fX8_act 700 x1 x2 x3 s ran number kinds trace = some (r, c, n, t) ∧ fX9_act 700 x1 x2 x3 s ran own num kinds trace = some (r, c, k, b, t) := by
  obtain ⟨a_0, a_1, a_2, a_3, a_4⟩ := g
  have n4 : (4 : Int32).toInt = 4 := by decide
  have n0 : (0 : Int32).toInt = 0 := by decide
  have n1 : (1 : Int32).toInt = 1 := by decide
  have n2 : (2 : Int32).toInt = 2 := by decide
  have n3 : (3 : Int32).toInt = 3 := by decide
  obtain ⟨w8, e8, q8⟩ := sf_X1_has (Nat.le_refl 700) (x1 := x1) a_0 a_1
  obtain ⟨w9, e9, q9⟩ := sb_X9_isBody (x1 := x1) a_0 a_1
  have hw : w8 = w9 := by
    have f8 : fX1_has 700 x1 s = some (decide (0 ≤ x1.toInt ∧ x1.toInt < s.toInt)) := by
      unfold fX1_has
      by_cases c : x1 < 0
      · rw [if_pos c, decide_eq_false (by rw [Int32.lt_iff_toInt_lt] at c; omega)]
      · rw [if_neg c]
        by_cases d : s ≤ x1
        · rw [if_pos d, decide_eq_false (by rw [Int32.le_iff_toInt_le] at d; omega)]
        · rw [if_neg d, decide_eq_true (by rw [Int32.lt_iff_toInt_lt] at c; rw [Int32.le_iff_toInt_le] at d; omega)]
    have f9 : fX9_isBody 700 x1 s = some (decide (0 ≤ x1.toInt ∧ x1.toInt < s.toInt)) := by
      unfold fX9_isBody
      have m_1 := i_64 x1
      have m_2 : (0 : Int64).toInt = 0 := by decide
      have m_3 := i_64 (s - (1 : Int32))
      have e := i_subE (rfl : s - (1 : Int32) = _) (by omega) (by omega)
      obtain ⟨w, ew, qw⟩ := sf_X9_within (Nat.le_refl 700) (x0 := x1.toInt64) (x2 := 0) (x4 := (s - (1 : Int32)).toInt64)
      rw [ew, bs_1]
      rw [m_1, m_2, m_3, e, n1] at qw
      rcases qw with ⟨rfl, q0, q1⟩ | ⟨rfl, q0⟩
      · rw [decide_eq_true (by omega)]
      · rw [decide_eq_false (by omega)]
    rw [f8] at e8
    rw [f9] at e9
    injection e8 with e8
    injection e9 with e9
    rw [← e8, ← e9]
  subst hw
  unfold fX8_act fX1_perform fX9_act
  rw [e8, e9, bs_1, bs_1]
  rcases q8 with ⟨rfl, q0, q1⟩ | ⟨rfl, -⟩
  · rw [if_neg (show ¬ (true = false) by decide), if_neg (show ¬ (true = false) by decide)]
    have hk : mm_inb x1 kinds.length = true := i_inb (by omega) (by omega)
    rw [ck_t hk, ck_t hk, ck_t hk, nm_eq]
    have z := zn_get a_4 q0 q0 q1 (by omega)
    by_cases c1 : x2 < 0
    · rw [Int32.lt_iff_toInt_lt] at c1
      rw [if_pos (show x2 < 0 by rw [Int32.lt_iff_toInt_lt]; exact c1), if_neg (fun h => by rw [h] at c1; omega), if_neg (fun h => by rw [h] at c1; omega), if_neg (fun h => by rw [h] at c1; omega), if_neg (fun h => by rw [h] at c1; omega)]
      exact ⟨_, _, _, _, _, _, rfl, rfl⟩
    · rw [if_neg c1]
      by_cases c2 : x2 < (4 : Int32)
      · rw [if_pos c2]
        have d1 : 0 ≤ x2.toInt := by rw [Int32.lt_iff_toInt_lt] at c1; omega
        have d2 : x2.toInt < 4 := by rw [Int32.lt_iff_toInt_lt] at c2; omega
        rcases k4 d1 d2 with rfl | rfl | rfl | rfl
        · obtain ⟨r, c, t, f1, f2, -⟩ := ac_0 z.1 z.2 x3 x1 trace a_3
          rw [f1, if_pos rfl, f2]
          exact ⟨_, _, _, _, _, _, rfl, rfl⟩
        · obtain ⟨r, c, t, f1, f2, -⟩ := ac_1 z.1 z.2 x3 x1 trace a_3
          rw [f1, if_neg (show ¬ (1 : Int32) = 0 by decide), if_pos rfl, f2]
          exact ⟨_, _, _, _, _, _, rfl, rfl⟩
        · obtain ⟨r, c, t, f1, f2, -⟩ := ac_2 z.1 z.2 x3 x1 trace a_3
          rw [f1, if_neg (show ¬ (2 : Int32) = 0 by decide), if_neg (show ¬ (2 : Int32) = 1 by decide), if_pos rfl, f2]
          exact ⟨_, _, _, _, _, _, rfl, rfl⟩
        · obtain ⟨r, c, t, f1, f2, -⟩ := ac_3 z.1 z.2 x3 x1 trace a_3
          rw [f1, if_neg (show ¬ (3 : Int32) = 0 by decide), if_neg (show ¬ (3 : Int32) = 1 by decide), if_neg (show ¬ (3 : Int32) = 2 by decide), if_pos rfl, f2]
          exact ⟨_, _, _, _, _, _, rfl, rfl⟩
      · rw [Int32.lt_iff_toInt_lt] at c2
        rw [if_neg (show ¬ x2 < (4 : Int32) by rw [Int32.lt_iff_toInt_lt]; exact c2), if_neg (fun h => by rw [h] at c2; omega), if_neg (fun h => by rw [h] at c2; omega), if_neg (fun h => by rw [h] at c2; omega), if_neg (fun h => by rw [h] at c2; omega)]
        exact ⟨_, _, _, _, _, _, rfl, rfl⟩
  · rw [if_pos rfl, if_pos rfl]
    exact ⟨_, _, _, _, _, _, rfl, rfl⟩
def rl_tp (v_wearing_size : Int32) (v_wearing_tape : List Int32) (m_tapeMany : Int32) (m_tape : List Int32) : Prop := m_tapeMany = v_wearing_size ∧ m_tape = v_wearing_tape
def rl_bo (v_foldings_size : Int32) (v_foldings_kinds : List Int32) (m_bodies : Int32) (m_bodyKind : List Int32) : Prop := m_bodies = v_foldings_size ∧ m_bodyKind = v_foldings_kinds
def rl_tr (v_foldings_ran : Int32) (v_foldings_trace : List Int32) (m_ran : Int32) (m_trace : List Int32) : Prop := m_ran = v_foldings_ran ∧ m_trace = v_foldings_trace
theorem rs_feed {x1 : Int32} {v_wearing_size : Int32} {v_wearing_tape : List Int32} {v_wearing_stepCount : Int32} {v_wearing_draftCount : Int32} {v_wearing_steps : List Int32} {v_wearing_draft : List Int32} {v_wearing_stack : List Int32} {m_tapeMany : Int32} {m_tape : List Int32} {m_textMany : Int32} {m_text : List Int32} {m_names : List Int32} {m_bends : List Int32} {m_high : List Int32} {m_to : List Int32} {m_pileSize : List Int32} (g8_0 : gi_la v_wearing_size v_wearing_stepCount v_wearing_draftCount v_wearing_tape v_wearing_steps v_wearing_draft v_wearing_stack) (g9_0 : gm_tx m_tapeMany m_textMany m_tape m_text m_names m_bends m_high m_to m_pileSize) (hr_0 : rl_tp v_wearing_size v_wearing_tape m_tapeMany m_tape) : ∃ (r : Int32) (p_wearing_size : Int32) (p_wearing_tape : List Int32) (q_tapeMany : Int32) (q_tape : List Int32), fX8_feed 700 x1 v_wearing_size v_wearing_tape = some (r, p_wearing_size, p_wearing_tape) ∧ fX9_feed 700 x1 m_tapeMany m_tape = some (r, q_tapeMany, q_tape) ∧ gi_la p_wearing_size v_wearing_stepCount v_wearing_draftCount p_wearing_tape v_wearing_steps v_wearing_draft v_wearing_stack ∧ gm_tx q_tapeMany m_textMany q_tape m_text m_names m_bends m_high m_to m_pileSize ∧ rl_tp p_wearing_size p_wearing_tape q_tapeMany q_tape := by
  obtain ⟨rfl, rfl⟩ := hr_0
  obtain ⟨a0, a1, -, -, -, -, a6, -⟩ := id g8_0
  obtain ⟨r, s', t', e8, e9⟩ := rc_feed (x := x1) a0 a1 a6
  have k8 := wp_get (st8_feed g8_0) e8
  have k9 := wp_get (st9_feed g9_0) e9
  exact ⟨_, _, _, _, _, e8, e9, k8, k9, rfl, rfl⟩
theorem rs_body {x1 : Int32} {v_foldings_size : Int32} {v_foldings_kinds : List Int32} {v_foldings_trace : List Int32} {m_bodies : Int32} {m_bodyKind : List Int32} {m_trace : List Int32} (g8_0 : gi_fo v_foldings_size v_foldings_kinds v_foldings_trace) (g9_0 : gm_bo m_bodies m_bodyKind m_trace) (hr_0 : rl_bo v_foldings_size v_foldings_kinds m_bodies m_bodyKind) : ∃ (r : Int32) (p_foldings_size : Int32) (p_foldings_kinds : List Int32) (q_bodies : Int32) (q_bodyKind : List Int32), fX8_body 700 x1 v_foldings_size v_foldings_kinds = some (r, p_foldings_size, p_foldings_kinds) ∧ fX9_body 700 x1 m_bodies m_bodyKind = some (r, q_bodies, q_bodyKind) ∧ gi_fo p_foldings_size p_foldings_kinds v_foldings_trace ∧ gm_bo q_bodies q_bodyKind m_trace ∧ rl_bo p_foldings_size p_foldings_kinds q_bodies q_bodyKind := by
  obtain ⟨rfl, rfl⟩ := hr_0
  obtain ⟨a0, a1, a2, -, -⟩ := id g8_0
  obtain ⟨r, s', t', e8, e9, -⟩ := rc_body (x := x1) a0 a1 a2
  have k8 := wp_get (st8_body g8_0) e8
  have k9 := wp_get (st9_body g9_0) e9
  exact ⟨_, _, _, _, _, e8, e9, k8, k9, rfl, rfl⟩
theorem rs_act {x1 : Int32} {x2 : Int32} {x3 : Int32} {v_foldings_size : Int32} {v_foldings_ran : Int32} {v_foldings_number : Int32} {v_foldings_kinds : List Int32} {v_foldings_trace : List Int32} {m_bodies : Int32} {m_ran : Int32} {m_ownKind : Int32} {m_ownNumber : Int32} {m_bodyKind : List Int32} {m_trace : List Int32} (g8_0 : gi_fo v_foldings_size v_foldings_kinds v_foldings_trace) (g9_0 : gm_bo m_bodies m_bodyKind m_trace) (hr_0 : rl_bo v_foldings_size v_foldings_kinds m_bodies m_bodyKind) (hr_1 : rl_tr v_foldings_ran v_foldings_trace m_ran m_trace) : ∃ (r : Int32) (p_foldings_ran : Int32) (p_foldings_number : Int32) (p_foldings_trace : List Int32) (q_ran : Int32) (q_ownKind : Int32) (q_ownNumber : Int32) (q_trace : List Int32), fX8_act 700 x1 x2 x3 v_foldings_size v_foldings_ran v_foldings_number v_foldings_kinds v_foldings_trace = some (r, p_foldings_ran, p_foldings_number, p_foldings_trace) ∧ fX9_act 700 x1 x2 x3 m_bodies m_ran m_ownKind m_ownNumber m_bodyKind m_trace = some (r, q_ran, q_ownKind, q_ownNumber, q_trace) ∧ gi_fo v_foldings_size v_foldings_kinds p_foldings_trace ∧ gm_bo m_bodies m_bodyKind q_trace ∧ rl_bo v_foldings_size v_foldings_kinds m_bodies m_bodyKind ∧ rl_tr p_foldings_ran p_foldings_trace q_ran q_trace := by
  obtain ⟨rfl, rfl⟩ := hr_0
  obtain ⟨rfl, rfl⟩ := hr_1
  obtain ⟨r, c, n, k, b, t, e8, e9⟩ := rc_act (x1 := x1) (x2 := x2) (x3 := x3) (ran := m_ran) (number := v_foldings_number) (own := m_ownKind) (num := m_ownNumber) g8_0
  have k8 := wp_get (st8_act g8_0) e8
  have k9 := wp_get (st9_act g9_0) e9
  exact ⟨_, _, _, _, _, _, _, _, e8, e9, k8, k9, ⟨rfl, rfl⟩, rfl, rfl⟩
theorem rs_trace {x1 : Int32} {v_foldings_ran : Int32} {v_foldings_trace : List Int32} {v_foldings_size : Int32} {v_foldings_kinds : List Int32} {m_ran : Int32} {m_trace : List Int32} {m_bodies : Int32} {m_bodyKind : List Int32} (g8_0 : gi_fo v_foldings_size v_foldings_kinds v_foldings_trace) (g9_0 : gm_bo m_bodies m_bodyKind m_trace) (hr_0 : rl_tr v_foldings_ran v_foldings_trace m_ran m_trace) : ∃ (r : Int32), fX8_trace 700 x1 v_foldings_ran v_foldings_trace = some r ∧ fX9_trace 700 x1 m_ran m_trace = some r ∧ rl_tr v_foldings_ran v_foldings_trace m_ran m_trace := by
  obtain ⟨rfl, rfl⟩ := hr_0
  obtain ⟨-, -, -, a3, -⟩ := id g8_0
  obtain ⟨r, e8, e9⟩ := rc_trace (x := x1) (n := m_ran) a3
  exact ⟨r, e8, e9, rfl, rfl⟩
