/-! Shelves: what they hold, how many -/
def sc1 (i nb holds body sort size : Int32) (shelf many : List Int32) : Prop :=
  (holds = 0 ∧ mm_ig shelf i = (-1 : Int32)) ∨ (holds = 1 ∧ mm_ig shelf i = body ∧ 0 ≤ body.toInt ∧ body.toInt < nb.toInt ∧ body.toInt < 50) ∨ (holds = 2 ∧ mm_ig shelf i = (50 : Int32) + sort ∧ 0 ≤ sort.toInt ∧ sort.toInt ≤ 4 ∧ mm_ig many i = size)
theorem sc1_ne {i k nb h b s z v w : Int32} {shelf many : List Int32} (hs : shelf.length = 6) (hm : many.length = 6) (hi : 0 ≤ i.toInt) (hi6 : i.toInt < 6) (hk : 0 ≤ k.toInt) (ne : ¬ k.toInt = i.toInt) (H : sc1 i nb h b s z shelf many) : sc1 i nb h b s z (mm_is shelf k v) (mm_is many k w) := by
  unfold sc1
  rw [ig_is shelf k i v hi (by omega) hk, if_neg ne, ig_is many k i w hi (by omega) hk, if_neg ne]
  exact H
theorem sc1_nb {i nb nb' h b s z : Int32} {shelf many : List Int32} (e : nb.toInt ≤ nb'.toInt) (H : sc1 i nb h b s z shelf many) : sc1 i nb' h b s z shelf many := by
  rcases H with H | ⟨h1, h2, h3, h4, h5⟩ | H
  · exact Or.inl H
  · exact Or.inr (Or.inl ⟨h1, h2, h3, by omega, h5⟩)
  · exact Or.inr (Or.inr H)
theorem ig_eq {l : List Int32} {k v : Int32} (hk : 0 ≤ k.toInt) (hl : k.toInt < l.length) : mm_ig (mm_is l k v) k = v := by
  rw [ig_is l k k v hk hl hk, if_pos rfl]
theorem sh8_e (x : Int32) : fX8_isShelf 700 x = some (decide (0 ≤ x.toInt ∧ x.toInt ≤ 5)) := by
  have n0 : (0 : Int32).toInt = 0 := by decide
  have n6 : (6 : Int32).toInt = 6 := by decide
  have n5 : (5 : Int32).toInt = 5 := by decide
  unfold fX8_isShelf
  by_cases c : x < 0
  · rw [if_pos c, decide_eq_false (by rw [Int32.lt_iff_toInt_lt] at c; omega)]
  · rw [if_neg c]
    by_cases d : (6 : Int32) ≤ x
    · rw [if_pos d, decide_eq_false (by rw [Int32.le_iff_toInt_le] at d; omega)]
    · rw [if_neg d, decide_eq_true (by rw [Int32.lt_iff_toInt_lt] at c; rw [Int32.le_iff_toInt_le] at d; omega)]
theorem sh9_e (x : Int32) : fX9_isShelf 700 x = some (decide (0 ≤ x.toInt ∧ x.toInt ≤ 5)) := by
  unfold fX9_isShelf
  have m1 := i_64 x
  have m0 : (0 : Int64).toInt = 0 := by decide
  have m5 : (5 : Int64).toInt = 5 := by decide
  obtain ⟨w, ew, qw⟩ := sf_X9_within (Nat.le_refl 700) (x0 := x.toInt64) (x2 := 0) (x4 := 5)
  rw [ew, bs_1]
  rw [m1, m0, m5] at qw
  rcases qw with ⟨rfl, q0, q1⟩ | ⟨rfl, q0⟩
  · rw [decide_eq_true (by omega)]
  · rw [decide_eq_false (by omega)]
theorem hs8_e {x s : Int32} (h0 : 0 ≤ s.toInt) (h1 : s.toInt ≤ 50) : fX1_has 700 x s = some (decide (0 ≤ x.toInt ∧ x.toInt < s.toInt)) := by
  have n0 : (0 : Int32).toInt = 0 := by decide
  unfold fX1_has
  by_cases c : x < 0
  · rw [if_pos c, decide_eq_false (by rw [Int32.lt_iff_toInt_lt] at c; omega)]
  · rw [if_neg c]
    by_cases d : s ≤ x
    · rw [if_pos d, decide_eq_false (by rw [Int32.le_iff_toInt_le] at d; omega)]
    · rw [if_neg d, decide_eq_true (by rw [Int32.lt_iff_toInt_lt] at c; rw [Int32.le_iff_toInt_le] at d; omega)]
theorem hs9_e {x s : Int32} (h0 : 0 ≤ s.toInt) (h1 : s.toInt ≤ 50) : fX9_isBody 700 x s = some (decide (0 ≤ x.toInt ∧ x.toInt < s.toInt)) := by
  unfold fX9_isBody
  have m_1 := i_64 x
  have m_2 : (0 : Int64).toInt = 0 := by decide
  have n1 : (1 : Int32).toInt = 1 := by decide
  have m_3 := i_64 (s - (1 : Int32))
  have e := i_subE (rfl : s - (1 : Int32) = _) (by omega) (by omega)
  obtain ⟨w, ew, qw⟩ := sf_X9_within (Nat.le_refl 700) (x0 := x.toInt64) (x2 := 0) (x4 := (s - (1 : Int32)).toInt64)
  rw [ew, bs_1]
  rw [m_1, m_2, m_3, e, n1] at qw
  rcases qw with ⟨rfl, q0, q1⟩ | ⟨rfl, q0⟩
  · rw [decide_eq_true (by omega)]
  · rw [decide_eq_false (by omega)]
theorem k6 {z : Int32} (h0 : 0 ≤ z.toInt) (h1 : z.toInt ≤ 5) : z = 0 ∨ z = 1 ∨ z = 2 ∨ z = 3 ∨ z = 4 ∨ z = 5 := by
  have n6 : (6 : Int32).toInt = 6 := by decide
  have n7 : (7 : Int32).toInt = 7 := by decide
  rcases k8 h0 (by omega) with e | e | e | e | e | e | e | e
  · exact Or.inl e
  · exact Or.inr (Or.inl e)
  · exact Or.inr (Or.inr (Or.inl e))
  · exact Or.inr (Or.inr (Or.inr (Or.inl e)))
  · exact Or.inr (Or.inr (Or.inr (Or.inr (Or.inl e))))
  · exact Or.inr (Or.inr (Or.inr (Or.inr (Or.inr e))))
  all_goals (exfalso; rw [e] at h1; omega)
theorem bs_4 {α0 α1 α2 α3 β : Type} (a0 : α0) (a1 : α1) (a2 : α2) (a3 : α3) (k : α0 → α1 → α2 → α3 → Option β) : mm_bd4 (some (a0, a1, a2, a3)) k = k a0 a1 a2 a3 := rfl
def rl_sc (v_foldings_size : Int32) (v_shelves0_holds : Int32) (v_shelves0_body : Int32) (v_shelves0_sort : Int32) (v_shelves0_size : Int32) (v_shelves1_holds : Int32) (v_shelves1_body : Int32) (v_shelves1_sort : Int32) (v_shelves1_size : Int32) (v_shelves2_holds : Int32) (v_shelves2_body : Int32) (v_shelves2_sort : Int32) (v_shelves2_size : Int32) (v_shelves3_holds : Int32) (v_shelves3_body : Int32) (v_shelves3_sort : Int32) (v_shelves3_size : Int32) (v_shelves4_holds : Int32) (v_shelves4_body : Int32) (v_shelves4_sort : Int32) (v_shelves4_size : Int32) (v_shelves5_holds : Int32) (v_shelves5_body : Int32) (v_shelves5_sort : Int32) (v_shelves5_size : Int32) (m_shelf : List Int32) (m_many : List Int32) : Prop := sc1 0 v_foldings_size v_shelves0_holds v_shelves0_body v_shelves0_sort v_shelves0_size m_shelf m_many ∧ sc1 1 v_foldings_size v_shelves1_holds v_shelves1_body v_shelves1_sort v_shelves1_size m_shelf m_many ∧ sc1 2 v_foldings_size v_shelves2_holds v_shelves2_body v_shelves2_sort v_shelves2_size m_shelf m_many ∧ sc1 3 v_foldings_size v_shelves3_holds v_shelves3_body v_shelves3_sort v_shelves3_size m_shelf m_many ∧ sc1 4 v_foldings_size v_shelves4_holds v_shelves4_body v_shelves4_sort v_shelves4_size m_shelf m_many ∧ sc1 5 v_foldings_size v_shelves5_holds v_shelves5_body v_shelves5_sort v_shelves5_size m_shelf m_many
theorem rs_body_sc {x1 : Int32} {v_foldings_size : Int32} {v_foldings_kinds : List Int32} {v_foldings_trace : List Int32} {v_shelves0_holds : Int32} {v_shelves0_body : Int32} {v_shelves0_sort : Int32} {v_shelves0_size : Int32} {v_shelves1_holds : Int32} {v_shelves1_body : Int32} {v_shelves1_sort : Int32} {v_shelves1_size : Int32} {v_shelves2_holds : Int32} {v_shelves2_body : Int32} {v_shelves2_sort : Int32} {v_shelves2_size : Int32} {v_shelves3_holds : Int32} {v_shelves3_body : Int32} {v_shelves3_sort : Int32} {v_shelves3_size : Int32} {v_shelves4_holds : Int32} {v_shelves4_body : Int32} {v_shelves4_sort : Int32} {v_shelves4_size : Int32} {v_shelves5_holds : Int32} {v_shelves5_body : Int32} {v_shelves5_sort : Int32} {v_shelves5_size : Int32} {m_bodies : Int32} {m_bodyKind : List Int32} {m_trace : List Int32} {m_shelf : List Int32} {m_many : List Int32} (g8_0 : gi_fo v_foldings_size v_foldings_kinds v_foldings_trace) (g9_0 : gm_bo m_bodies m_bodyKind m_trace) (hr_0 : rl_bo v_foldings_size v_foldings_kinds m_bodies m_bodyKind) (hr_1 : rl_sc v_foldings_size v_shelves0_holds v_shelves0_body v_shelves0_sort v_shelves0_size v_shelves1_holds v_shelves1_body v_shelves1_sort v_shelves1_size v_shelves2_holds v_shelves2_body v_shelves2_sort v_shelves2_size v_shelves3_holds v_shelves3_body v_shelves3_sort v_shelves3_size v_shelves4_holds v_shelves4_body v_shelves4_sort v_shelves4_size v_shelves5_holds v_shelves5_body v_shelves5_sort v_shelves5_size m_shelf m_many) : ∃ (r : Int32) (p_foldings_size : Int32) (p_foldings_kinds : List Int32) (q_bodies : Int32) (q_bodyKind : List Int32), fX8_body 700 x1 v_foldings_size v_foldings_kinds = some (r, p_foldings_size, p_foldings_kinds) ∧ fX9_body 700 x1 m_bodies m_bodyKind = some (r, q_bodies, q_bodyKind) ∧ gi_fo p_foldings_size p_foldings_kinds v_foldings_trace ∧ gm_bo q_bodies q_bodyKind m_trace ∧ rl_bo p_foldings_size p_foldings_kinds q_bodies q_bodyKind ∧ rl_sc p_foldings_size v_shelves0_holds v_shelves0_body v_shelves0_sort v_shelves0_size v_shelves1_holds v_shelves1_body v_shelves1_sort v_shelves1_size v_shelves2_holds v_shelves2_body v_shelves2_sort v_shelves2_size v_shelves3_holds v_shelves3_body v_shelves3_sort v_shelves3_size v_shelves4_holds v_shelves4_body v_shelves4_sort v_shelves4_size v_shelves5_holds v_shelves5_body v_shelves5_sort v_shelves5_size m_shelf m_many := by
  obtain ⟨rfl, rfl⟩ := hr_0
  obtain ⟨a0, a1, a2, -, -⟩ := id g8_0
  obtain ⟨r, s', t', e8, e9, le⟩ := rc_body (x := x1) a0 a1 a2
  obtain ⟨c0, c1, c2, c3, c4, c5⟩ := hr_1
  have k8 := wp_get (st8_body g8_0) e8
  have k9 := wp_get (st9_body g9_0) e9
  exact ⟨_, _, _, _, _, e8, e9, k8, k9, ⟨rfl, rfl⟩, sc1_nb le c0, sc1_nb le c1, sc1_nb le c2, sc1_nb le c3, sc1_nb le c4, sc1_nb le c5⟩
theorem kp_ok {x1 x2 : Int32} {v_foldings_size : Int32} {v_shelves0_holds : Int32} {v_shelves0_body : Int32} {v_shelves0_sort : Int32} {v_shelves0_size : Int32} {v_shelves1_holds : Int32} {v_shelves1_body : Int32} {v_shelves1_sort : Int32} {v_shelves1_size : Int32} {v_shelves2_holds : Int32} {v_shelves2_body : Int32} {v_shelves2_sort : Int32} {v_shelves2_size : Int32} {v_shelves3_holds : Int32} {v_shelves3_body : Int32} {v_shelves3_sort : Int32} {v_shelves3_size : Int32} {v_shelves4_holds : Int32} {v_shelves4_body : Int32} {v_shelves4_sort : Int32} {v_shelves4_size : Int32} {v_shelves5_holds : Int32} {v_shelves5_body : Int32} {v_shelves5_sort : Int32} {v_shelves5_size : Int32} {m_shelf m_many : List Int32} (hx0 : 0 ≤ x1.toInt) (hx1 : x1.toInt ≤ 5) (hs : m_shelf.length = 6) (hm : m_many.length = 6) (h50 : v_foldings_size.toInt ≤ 50) (hc : x2 = (-1 : Int32) ∨ (0 ≤ x2.toInt ∧ x2.toInt < v_foldings_size.toInt)) (H : rl_sc v_foldings_size v_shelves0_holds v_shelves0_body v_shelves0_sort v_shelves0_size v_shelves1_holds v_shelves1_body v_shelves1_sort v_shelves1_size v_shelves2_holds v_shelves2_body v_shelves2_sort v_shelves2_size v_shelves3_holds v_shelves3_body v_shelves3_sort v_shelves3_size v_shelves4_holds v_shelves4_body v_shelves4_sort v_shelves4_size v_shelves5_holds v_shelves5_body v_shelves5_sort v_shelves5_size m_shelf m_many) : ∃ (p_shelves0_holds : Int32) (p_shelves0_body : Int32) (p_shelves1_holds : Int32) (p_shelves1_body : Int32) (p_shelves2_holds : Int32) (p_shelves2_body : Int32) (p_shelves3_holds : Int32) (p_shelves3_body : Int32) (p_shelves4_holds : Int32) (p_shelves4_body : Int32) (p_shelves5_holds : Int32) (p_shelves5_body : Int32) (q_shelf q_many : List Int32), fX8_keep_25 700 x1 x2 v_foldings_size v_shelves0_holds v_shelves0_body v_shelves1_holds v_shelves1_body v_shelves2_holds v_shelves2_body v_shelves3_holds v_shelves3_body v_shelves4_holds v_shelves4_body v_shelves5_holds v_shelves5_body = some ((1 : Int32), p_shelves0_holds, p_shelves0_body, p_shelves1_holds, p_shelves1_body, p_shelves2_holds, p_shelves2_body, p_shelves3_holds, p_shelves3_body, p_shelves4_holds, p_shelves4_body, p_shelves5_holds, p_shelves5_body) ∧ fX9_keep_22 700 x1 x2 v_foldings_size m_shelf m_many = some ((1 : Int32), q_shelf, q_many) ∧ rl_sc v_foldings_size p_shelves0_holds p_shelves0_body v_shelves0_sort v_shelves0_size p_shelves1_holds p_shelves1_body v_shelves1_sort v_shelves1_size p_shelves2_holds p_shelves2_body v_shelves2_sort v_shelves2_size p_shelves3_holds p_shelves3_body v_shelves3_sort v_shelves3_size p_shelves4_holds p_shelves4_body v_shelves4_sort v_shelves4_size p_shelves5_holds p_shelves5_body v_shelves5_sort v_shelves5_size q_shelf q_many := by
  obtain ⟨c0, c1, c2, c3, c4, c5⟩ := H
  unfold fX9_keep_22
  rw [ck_t (i_inb hx0 (by omega)), nm_eq, ck_t (i_inb hx0 (by omega)), nm_eq]
  unfold fX8_keep_25
  rcases k6 hx0 hx1 with rfl | rfl | rfl | rfl | rfl | rfl
  · by_cases e : x2 = (-1 : Int32)
    · rw [if_pos e, if_pos rfl]
      exact ⟨_, _, _, _, _, _, _, _, _, _, _, _, _, _, rfl, rfl, ⟨Or.inl ⟨rfl, by rw [ig_eq (by decide) (by omega)]; exact e⟩, sc1_ne hs hm (by decide) (by decide) (by decide) (by decide) c1, sc1_ne hs hm (by decide) (by decide) (by decide) (by decide) c2, sc1_ne hs hm (by decide) (by decide) (by decide) (by decide) c3, sc1_ne hs hm (by decide) (by decide) (by decide) (by decide) c4, sc1_ne hs hm (by decide) (by decide) (by decide) (by decide) c5⟩⟩
    · rcases hc with hc | hc
      · exact absurd hc e
      · rw [if_neg e, if_pos rfl]
        unfold fX6_holdFolding
        rw [bs_2]
        exact ⟨_, _, _, _, _, _, _, _, _, _, _, _, _, _, rfl, rfl, ⟨Or.inr (Or.inl ⟨rfl, ig_eq (by decide) (by omega), hc.1, hc.2, by omega⟩), sc1_ne hs hm (by decide) (by decide) (by decide) (by decide) c1, sc1_ne hs hm (by decide) (by decide) (by decide) (by decide) c2, sc1_ne hs hm (by decide) (by decide) (by decide) (by decide) c3, sc1_ne hs hm (by decide) (by decide) (by decide) (by decide) c4, sc1_ne hs hm (by decide) (by decide) (by decide) (by decide) c5⟩⟩
  · by_cases e : x2 = (-1 : Int32)
    · rw [if_pos e, if_neg (show ¬ (1 : Int32) = 0 by decide), if_pos rfl]
      exact ⟨_, _, _, _, _, _, _, _, _, _, _, _, _, _, rfl, rfl, ⟨sc1_ne hs hm (by decide) (by decide) (by decide) (by decide) c0, Or.inl ⟨rfl, by rw [ig_eq (by decide) (by omega)]; exact e⟩, sc1_ne hs hm (by decide) (by decide) (by decide) (by decide) c2, sc1_ne hs hm (by decide) (by decide) (by decide) (by decide) c3, sc1_ne hs hm (by decide) (by decide) (by decide) (by decide) c4, sc1_ne hs hm (by decide) (by decide) (by decide) (by decide) c5⟩⟩
    · rcases hc with hc | hc
      · exact absurd hc e
      · rw [if_neg e, if_neg (show ¬ (1 : Int32) = 0 by decide), if_pos rfl]
        unfold fX6_holdFolding
        rw [bs_2]
        exact ⟨_, _, _, _, _, _, _, _, _, _, _, _, _, _, rfl, rfl, ⟨sc1_ne hs hm (by decide) (by decide) (by decide) (by decide) c0, Or.inr (Or.inl ⟨rfl, ig_eq (by decide) (by omega), hc.1, hc.2, by omega⟩), sc1_ne hs hm (by decide) (by decide) (by decide) (by decide) c2, sc1_ne hs hm (by decide) (by decide) (by decide) (by decide) c3, sc1_ne hs hm (by decide) (by decide) (by decide) (by decide) c4, sc1_ne hs hm (by decide) (by decide) (by decide) (by decide) c5⟩⟩
  · by_cases e : x2 = (-1 : Int32)
    · rw [if_pos e, if_neg (show ¬ (2 : Int32) = 0 by decide), if_neg (show ¬ (2 : Int32) = 1 by decide), if_pos rfl]
      exact ⟨_, _, _, _, _, _, _, _, _, _, _, _, _, _, rfl, rfl, ⟨sc1_ne hs hm (by decide) (by decide) (by decide) (by decide) c0, sc1_ne hs hm (by decide) (by decide) (by decide) (by decide) c1, Or.inl ⟨rfl, by rw [ig_eq (by decide) (by omega)]; exact e⟩, sc1_ne hs hm (by decide) (by decide) (by decide) (by decide) c3, sc1_ne hs hm (by decide) (by decide) (by decide) (by decide) c4, sc1_ne hs hm (by decide) (by decide) (by decide) (by decide) c5⟩⟩
    · rcases hc with hc | hc
      · exact absurd hc e
      · rw [if_neg e, if_neg (show ¬ (2 : Int32) = 0 by decide), if_neg (show ¬ (2 : Int32) = 1 by decide), if_pos rfl]
        unfold fX6_holdFolding
        rw [bs_2]
        exact ⟨_, _, _, _, _, _, _, _, _, _, _, _, _, _, rfl, rfl, ⟨sc1_ne hs hm (by decide) (by decide) (by decide) (by decide) c0, sc1_ne hs hm (by decide) (by decide) (by decide) (by decide) c1, Or.inr (Or.inl ⟨rfl, ig_eq (by decide) (by omega), hc.1, hc.2, by omega⟩), sc1_ne hs hm (by decide) (by decide) (by decide) (by decide) c3, sc1_ne hs hm (by decide) (by decide) (by decide) (by decide) c4, sc1_ne hs hm (by decide) (by decide) (by decide) (by decide) c5⟩⟩
  · by_cases e : x2 = (-1 : Int32)
    · rw [if_pos e, if_neg (show ¬ (3 : Int32) = 0 by decide), if_neg (show ¬ (3 : Int32) = 1 by decide), if_neg (show ¬ (3 : Int32) = 2 by decide), if_pos rfl]
      exact ⟨_, _, _, _, _, _, _, _, _, _, _, _, _, _, rfl, rfl, ⟨sc1_ne hs hm (by decide) (by decide) (by decide) (by decide) c0, sc1_ne hs hm (by decide) (by decide) (by decide) (by decide) c1, sc1_ne hs hm (by decide) (by decide) (by decide) (by decide) c2, Or.inl ⟨rfl, by rw [ig_eq (by decide) (by omega)]; exact e⟩, sc1_ne hs hm (by decide) (by decide) (by decide) (by decide) c4, sc1_ne hs hm (by decide) (by decide) (by decide) (by decide) c5⟩⟩
    · rcases hc with hc | hc
      · exact absurd hc e
      · rw [if_neg e, if_neg (show ¬ (3 : Int32) = 0 by decide), if_neg (show ¬ (3 : Int32) = 1 by decide), if_neg (show ¬ (3 : Int32) = 2 by decide), if_pos rfl]
        unfold fX6_holdFolding
        rw [bs_2]
        exact ⟨_, _, _, _, _, _, _, _, _, _, _, _, _, _, rfl, rfl, ⟨sc1_ne hs hm (by decide) (by decide) (by decide) (by decide) c0, sc1_ne hs hm (by decide) (by decide) (by decide) (by decide) c1, sc1_ne hs hm (by decide) (by decide) (by decide) (by decide) c2, Or.inr (Or.inl ⟨rfl, ig_eq (by decide) (by omega), hc.1, hc.2, by omega⟩), sc1_ne hs hm (by decide) (by decide) (by decide) (by decide) c4, sc1_ne hs hm (by decide) (by decide) (by decide) (by decide) c5⟩⟩
  · by_cases e : x2 = (-1 : Int32)
    · rw [if_pos e, if_neg (show ¬ (4 : Int32) = 0 by decide), if_neg (show ¬ (4 : Int32) = 1 by decide), if_neg (show ¬ (4 : Int32) = 2 by decide), if_neg (show ¬ (4 : Int32) = 3 by decide), if_pos rfl]
      exact ⟨_, _, _, _, _, _, _, _, _, _, _, _, _, _, rfl, rfl, ⟨sc1_ne hs hm (by decide) (by decide) (by decide) (by decide) c0, sc1_ne hs hm (by decide) (by decide) (by decide) (by decide) c1, sc1_ne hs hm (by decide) (by decide) (by decide) (by decide) c2, sc1_ne hs hm (by decide) (by decide) (by decide) (by decide) c3, Or.inl ⟨rfl, by rw [ig_eq (by decide) (by omega)]; exact e⟩, sc1_ne hs hm (by decide) (by decide) (by decide) (by decide) c5⟩⟩
    · rcases hc with hc | hc
      · exact absurd hc e
      · rw [if_neg e, if_neg (show ¬ (4 : Int32) = 0 by decide), if_neg (show ¬ (4 : Int32) = 1 by decide), if_neg (show ¬ (4 : Int32) = 2 by decide), if_neg (show ¬ (4 : Int32) = 3 by decide), if_pos rfl]
        unfold fX6_holdFolding
        rw [bs_2]
        exact ⟨_, _, _, _, _, _, _, _, _, _, _, _, _, _, rfl, rfl, ⟨sc1_ne hs hm (by decide) (by decide) (by decide) (by decide) c0, sc1_ne hs hm (by decide) (by decide) (by decide) (by decide) c1, sc1_ne hs hm (by decide) (by decide) (by decide) (by decide) c2, sc1_ne hs hm (by decide) (by decide) (by decide) (by decide) c3, Or.inr (Or.inl ⟨rfl, ig_eq (by decide) (by omega), hc.1, hc.2, by omega⟩), sc1_ne hs hm (by decide) (by decide) (by decide) (by decide) c5⟩⟩
  · by_cases e : x2 = (-1 : Int32)
    · rw [if_pos e, if_neg (show ¬ (5 : Int32) = 0 by decide), if_neg (show ¬ (5 : Int32) = 1 by decide), if_neg (show ¬ (5 : Int32) = 2 by decide), if_neg (show ¬ (5 : Int32) = 3 by decide), if_neg (show ¬ (5 : Int32) = 4 by decide), if_pos rfl]
      exact ⟨_, _, _, _, _, _, _, _, _, _, _, _, _, _, rfl, rfl, ⟨sc1_ne hs hm (by decide) (by decide) (by decide) (by decide) c0, sc1_ne hs hm (by decide) (by decide) (by decide) (by decide) c1, sc1_ne hs hm (by decide) (by decide) (by decide) (by decide) c2, sc1_ne hs hm (by decide) (by decide) (by decide) (by decide) c3, sc1_ne hs hm (by decide) (by decide) (by decide) (by decide) c4, Or.inl ⟨rfl, by rw [ig_eq (by decide) (by omega)]; exact e⟩⟩⟩
    · rcases hc with hc | hc
      · exact absurd hc e
      · rw [if_neg e, if_neg (show ¬ (5 : Int32) = 0 by decide), if_neg (show ¬ (5 : Int32) = 1 by decide), if_neg (show ¬ (5 : Int32) = 2 by decide), if_neg (show ¬ (5 : Int32) = 3 by decide), if_neg (show ¬ (5 : Int32) = 4 by decide), if_pos rfl]
        unfold fX6_holdFolding
        rw [bs_2]
        exact ⟨_, _, _, _, _, _, _, _, _, _, _, _, _, _, rfl, rfl, ⟨sc1_ne hs hm (by decide) (by decide) (by decide) (by decide) c0, sc1_ne hs hm (by decide) (by decide) (by decide) (by decide) c1, sc1_ne hs hm (by decide) (by decide) (by decide) (by decide) c2, sc1_ne hs hm (by decide) (by decide) (by decide) (by decide) c3, sc1_ne hs hm (by decide) (by decide) (by decide) (by decide) c4, Or.inr (Or.inl ⟨rfl, ig_eq (by decide) (by omega), hc.1, hc.2, by omega⟩)⟩⟩
theorem rs_keep_sc {x1 : Int32} {x2 : Int32} {v_foldings_size : Int32} {v_shelves0_holds : Int32} {v_shelves0_body : Int32} {v_shelves1_holds : Int32} {v_shelves1_body : Int32} {v_shelves2_holds : Int32} {v_shelves2_body : Int32} {v_shelves3_holds : Int32} {v_shelves3_body : Int32} {v_shelves4_holds : Int32} {v_shelves4_body : Int32} {v_shelves5_holds : Int32} {v_shelves5_body : Int32} {v_foldings_kinds : List Int32} {v_foldings_trace : List Int32} {v_shelves0_sort : Int32} {v_shelves0_size : Int32} {v_shelves1_sort : Int32} {v_shelves1_size : Int32} {v_shelves2_sort : Int32} {v_shelves2_size : Int32} {v_shelves3_sort : Int32} {v_shelves3_size : Int32} {v_shelves4_sort : Int32} {v_shelves4_size : Int32} {v_shelves5_sort : Int32} {v_shelves5_size : Int32} {m_bodies : Int32} {m_shelf : List Int32} {m_many : List Int32} {m_bodyKind : List Int32} {m_trace : List Int32} {m_items : List Int64} {m_carried : List Int64} (g8_0 : gi_fo v_foldings_size v_foldings_kinds v_foldings_trace) (g9_0 : gm_bo m_bodies m_bodyKind m_trace) (g9_1 : gm_sf m_shelf m_many m_items m_carried) (hr_0 : rl_bo v_foldings_size v_foldings_kinds m_bodies m_bodyKind) (hr_1 : rl_sc v_foldings_size v_shelves0_holds v_shelves0_body v_shelves0_sort v_shelves0_size v_shelves1_holds v_shelves1_body v_shelves1_sort v_shelves1_size v_shelves2_holds v_shelves2_body v_shelves2_sort v_shelves2_size v_shelves3_holds v_shelves3_body v_shelves3_sort v_shelves3_size v_shelves4_holds v_shelves4_body v_shelves4_sort v_shelves4_size v_shelves5_holds v_shelves5_body v_shelves5_sort v_shelves5_size m_shelf m_many) : ∃ (r : Int32) (p_shelves0_holds : Int32) (p_shelves0_body : Int32) (p_shelves1_holds : Int32) (p_shelves1_body : Int32) (p_shelves2_holds : Int32) (p_shelves2_body : Int32) (p_shelves3_holds : Int32) (p_shelves3_body : Int32) (p_shelves4_holds : Int32) (p_shelves4_body : Int32) (p_shelves5_holds : Int32) (p_shelves5_body : Int32) (q_shelf : List Int32) (q_many : List Int32), fX8_keep 700 x1 x2 v_foldings_size v_shelves0_holds v_shelves0_body v_shelves1_holds v_shelves1_body v_shelves2_holds v_shelves2_body v_shelves3_holds v_shelves3_body v_shelves4_holds v_shelves4_body v_shelves5_holds v_shelves5_body = some (r, p_shelves0_holds, p_shelves0_body, p_shelves1_holds, p_shelves1_body, p_shelves2_holds, p_shelves2_body, p_shelves3_holds, p_shelves3_body, p_shelves4_holds, p_shelves4_body, p_shelves5_holds, p_shelves5_body) ∧ fX9_keep 700 x1 x2 m_bodies m_shelf m_many = some (r, q_shelf, q_many) ∧ gm_sf q_shelf q_many m_items m_carried ∧ rl_bo v_foldings_size v_foldings_kinds m_bodies m_bodyKind ∧ rl_sc v_foldings_size p_shelves0_holds p_shelves0_body v_shelves0_sort v_shelves0_size p_shelves1_holds p_shelves1_body v_shelves1_sort v_shelves1_size p_shelves2_holds p_shelves2_body v_shelves2_sort v_shelves2_size p_shelves3_holds p_shelves3_body v_shelves3_sort v_shelves3_size p_shelves4_holds p_shelves4_body v_shelves4_sort v_shelves4_size p_shelves5_holds p_shelves5_body v_shelves5_sort v_shelves5_size q_shelf q_many := by
  obtain ⟨rfl, rfl⟩ := hr_0
  obtain ⟨a0, a1, -, -, -⟩ := id g8_0
  obtain ⟨b0, b1, -, -, -⟩ := id g9_1
  have X : ∃ (r : Int32) (p_shelves0_holds : Int32) (p_shelves0_body : Int32) (p_shelves1_holds : Int32) (p_shelves1_body : Int32) (p_shelves2_holds : Int32) (p_shelves2_body : Int32) (p_shelves3_holds : Int32) (p_shelves3_body : Int32) (p_shelves4_holds : Int32) (p_shelves4_body : Int32) (p_shelves5_holds : Int32) (p_shelves5_body : Int32) (q_shelf q_many : List Int32), fX8_keep 700 x1 x2 m_bodies v_shelves0_holds v_shelves0_body v_shelves1_holds v_shelves1_body v_shelves2_holds v_shelves2_body v_shelves3_holds v_shelves3_body v_shelves4_holds v_shelves4_body v_shelves5_holds v_shelves5_body = some (r, p_shelves0_holds, p_shelves0_body, p_shelves1_holds, p_shelves1_body, p_shelves2_holds, p_shelves2_body, p_shelves3_holds, p_shelves3_body, p_shelves4_holds, p_shelves4_body, p_shelves5_holds, p_shelves5_body) ∧ fX9_keep 700 x1 x2 m_bodies m_shelf m_many = some (r, q_shelf, q_many) ∧ rl_sc m_bodies p_shelves0_holds p_shelves0_body v_shelves0_sort v_shelves0_size p_shelves1_holds p_shelves1_body v_shelves1_sort v_shelves1_size p_shelves2_holds p_shelves2_body v_shelves2_sort v_shelves2_size p_shelves3_holds p_shelves3_body v_shelves3_sort v_shelves3_size p_shelves4_holds p_shelves4_body v_shelves4_sort v_shelves4_size p_shelves5_holds p_shelves5_body v_shelves5_sort v_shelves5_size q_shelf q_many := by
    unfold fX8_keep fX9_keep
    rw [sh8_e, sh9_e, bs_1, bs_1]
    by_cases hx : 0 ≤ x1.toInt ∧ x1.toInt ≤ 5
    · rw [decide_eq_true hx, if_neg (show ¬ (true = false) by decide), if_neg (show ¬ (true = false) by decide)]
      by_cases e : x2 = (-1 : Int32)
      · rw [if_pos e, if_pos e]
        obtain ⟨p0, p1, p2, p3, p4, p5, p6, p7, p8, p9, p10, p11, q0, q1, f8, f9, R⟩ := kp_ok hx.1 hx.2 b0 b1 a1 (Or.inl e) hr_1
        exact ⟨_, _, _, _, _, _, _, _, _, _, _, _, _, _, _, f8, f9, R⟩
      · rw [if_neg e, if_neg e, hs8_e a0 a1, hs9_e a0 a1, bs_1, bs_1]
        by_cases d : 0 ≤ x2.toInt ∧ x2.toInt < m_bodies.toInt
        · rw [decide_eq_true d, if_neg (show ¬ (true = false) by decide), if_neg (show ¬ (true = false) by decide)]
          obtain ⟨p0, p1, p2, p3, p4, p5, p6, p7, p8, p9, p10, p11, q0, q1, f8, f9, R⟩ := kp_ok hx.1 hx.2 b0 b1 a1 (Or.inr d) hr_1
          exact ⟨_, _, _, _, _, _, _, _, _, _, _, _, _, _, _, f8, f9, R⟩
        · rw [decide_eq_false d, if_pos rfl, if_pos rfl]
          exact ⟨_, _, _, _, _, _, _, _, _, _, _, _, _, _, _, rfl, rfl, hr_1⟩
    · rw [decide_eq_false hx, if_pos rfl, if_pos rfl]
      exact ⟨_, _, _, _, _, _, _, _, _, _, _, _, _, _, _, rfl, rfl, hr_1⟩
  obtain ⟨r, p0, p1, p2, p3, p4, p5, p6, p7, p8, p9, p10, p11, q0, q1, e8, e9, R⟩ := X
  have k9 := wp_get (st9_keep g9_0 g9_1) e9
  exact ⟨_, _, _, _, _, _, _, _, _, _, _, _, _, _, _, e8, e9, k9, ⟨rfl, rfl⟩, R⟩
theorem rw57 (sh mn : List Int32) (x1 : Int32) (hx0 : 0 ≤ x1.toInt) (hx1 : x1.toInt ≤ 5) : ∀ (n : Nat) (x4 : Int32) (items : List Int64), 60 * x1.toInt ≤ x4.toInt → x4.toInt ≤ 60 * x1.toInt + 60 → items.length = 360 → (60 * x1.toInt + 60 - x4.toInt).toNat < n → ∃ it, fX9_row_57 700 n x1 x4 sh mn items = some ((1 : Int32), sh, mn, it) := by
  have n60 : (60 : Int32).toInt = 60 := by decide
  have n1 : (1 : Int32).toInt = 1 := by decide
  have e1 : ((60 : Int32) * x1).toInt = 60 * x1.toInt := i_mulLE n60 rfl (by omega) (by omega)
  have e2 : ((60 : Int32) * x1 + (60 : Int32)).toInt = 60 * x1.toInt + 60 := by rw [i_addE rfl (by omega) (by omega), e1, n60]
  intro n
  induction n with
  | zero => intro x4 items h1 h2 h3 h4; exact absurd h4 (by omega)
  | succ n ih =>
    intro x4 items h1 h2 h3 h4
    rw [uf_X9_row_57]
    by_cases c : (60 : Int32) * x1 + (60 : Int32) ≤ x4
    · rw [if_pos c]
      exact ⟨_, rfl⟩
    · rw [if_neg c]
      rw [Int32.le_iff_toInt_le, e2] at c
      have e3 : (x4 + (1 : Int32)).toInt = x4.toInt + 1 := by rw [i_addE rfl (by omega) (by omega), n1]
      rw [ck_t (i_inb (by omega) (by omega)), nm_eq, nm_eq]
      exact ih _ _ (by omega) (by omega) (by rw [ls_len]; exact h3) (by omega)
theorem rw_ok {x1 x2 x3 : Int32} {v_foldings_size : Int32} {v_shelves0_holds : Int32} {v_shelves0_body : Int32} {v_shelves0_sort : Int32} {v_shelves0_size : Int32} {v_shelves1_holds : Int32} {v_shelves1_body : Int32} {v_shelves1_sort : Int32} {v_shelves1_size : Int32} {v_shelves2_holds : Int32} {v_shelves2_body : Int32} {v_shelves2_sort : Int32} {v_shelves2_size : Int32} {v_shelves3_holds : Int32} {v_shelves3_body : Int32} {v_shelves3_sort : Int32} {v_shelves3_size : Int32} {v_shelves4_holds : Int32} {v_shelves4_body : Int32} {v_shelves4_sort : Int32} {v_shelves4_size : Int32} {v_shelves5_holds : Int32} {v_shelves5_body : Int32} {v_shelves5_sort : Int32} {v_shelves5_size : Int32} {m_shelf m_many : List Int32} {m_items : List Int64} {v_shelves0_items : List Int64} {v_shelves1_items : List Int64} {v_shelves2_items : List Int64} {v_shelves3_items : List Int64} {v_shelves4_items : List Int64} {v_shelves5_items : List Int64} {r8 r9 : Int32} {p_shelves0_holds : Int32} {p_shelves0_sort : Int32} {p_shelves0_size : Int32} {p_shelves0_items : List Int64} {p_shelves1_holds : Int32} {p_shelves1_sort : Int32} {p_shelves1_size : Int32} {p_shelves1_items : List Int64} {p_shelves2_holds : Int32} {p_shelves2_sort : Int32} {p_shelves2_size : Int32} {p_shelves2_items : List Int64} {p_shelves3_holds : Int32} {p_shelves3_sort : Int32} {p_shelves3_size : Int32} {p_shelves3_items : List Int64} {p_shelves4_holds : Int32} {p_shelves4_sort : Int32} {p_shelves4_size : Int32} {p_shelves4_items : List Int64} {p_shelves5_holds : Int32} {p_shelves5_sort : Int32} {p_shelves5_size : Int32} {p_shelves5_items : List Int64} {q_shelf q_many : List Int32} {q_items : List Int64} (hx0 : 0 ≤ x1.toInt) (hx1 : x1.toInt ≤ 5) (hy0 : 0 ≤ x2.toInt) (hy1 : x2.toInt ≤ 4) (hs : m_shelf.length = 6) (hm : m_many.length = 6) (hi : m_items.length = 360) (l0 : v_shelves0_items.length = 60) (l1 : v_shelves1_items.length = 60) (l2 : v_shelves2_items.length = 60) (l3 : v_shelves3_items.length = 60) (l4 : v_shelves4_items.length = 60) (l5 : v_shelves5_items.length = 60) (H : rl_sc v_foldings_size v_shelves0_holds v_shelves0_body v_shelves0_sort v_shelves0_size v_shelves1_holds v_shelves1_body v_shelves1_sort v_shelves1_size v_shelves2_holds v_shelves2_body v_shelves2_sort v_shelves2_size v_shelves3_holds v_shelves3_body v_shelves3_sort v_shelves3_size v_shelves4_holds v_shelves4_body v_shelves4_sort v_shelves4_size v_shelves5_holds v_shelves5_body v_shelves5_sort v_shelves5_size m_shelf m_many) (e8 : fX8_row 700 x1 x2 x3 v_shelves0_holds v_shelves0_sort v_shelves0_size v_shelves0_items v_shelves1_holds v_shelves1_sort v_shelves1_size v_shelves1_items v_shelves2_holds v_shelves2_sort v_shelves2_size v_shelves2_items v_shelves3_holds v_shelves3_sort v_shelves3_size v_shelves3_items v_shelves4_holds v_shelves4_sort v_shelves4_size v_shelves4_items v_shelves5_holds v_shelves5_sort v_shelves5_size v_shelves5_items = some (r8, p_shelves0_holds, p_shelves0_sort, p_shelves0_size, p_shelves0_items, p_shelves1_holds, p_shelves1_sort, p_shelves1_size, p_shelves1_items, p_shelves2_holds, p_shelves2_sort, p_shelves2_size, p_shelves2_items, p_shelves3_holds, p_shelves3_sort, p_shelves3_size, p_shelves3_items, p_shelves4_holds, p_shelves4_sort, p_shelves4_size, p_shelves4_items, p_shelves5_holds, p_shelves5_sort, p_shelves5_size, p_shelves5_items)) (e9 : fX9_row 700 x1 x2 x3 m_shelf m_many m_items = some (r9, q_shelf, q_many, q_items)) (hz0 : 0 ≤ x3.toInt) (hz1 : x3.toInt ≤ 60) : rl_sc v_foldings_size p_shelves0_holds v_shelves0_body p_shelves0_sort p_shelves0_size p_shelves1_holds v_shelves1_body p_shelves1_sort p_shelves1_size p_shelves2_holds v_shelves2_body p_shelves2_sort p_shelves2_size p_shelves3_holds v_shelves3_body p_shelves3_sort p_shelves3_size p_shelves4_holds v_shelves4_body p_shelves4_sort p_shelves4_size p_shelves5_holds v_shelves5_body p_shelves5_sort p_shelves5_size q_shelf q_many := by
  obtain ⟨c0, c1, c2, c3, c4, c5⟩ := H
  have n60 : (60 : Int32).toInt = 60 := by decide
  have n50 : (50 : Int32).toInt = 50 := by decide
  have n5 : (5 : Int32).toInt = 5 := by decide
  have n0 : (0 : Int32).toInt = 0 := by decide
  have m0 : (0 : Int64).toInt = 0 := by decide
  have m4 : (4 : Int64).toInt = 4 := by decide
  have my := i_64 x2
  unfold fX9_row at e9
  rw [sh9_e, decide_eq_true ⟨hx0, hx1⟩, bs_1, if_neg (show ¬ (true = false) by decide)] at e9
  obtain ⟨w, ew, qw⟩ := sf_X9_within (Nat.le_refl 700) (x0 := x2.toInt64) (x2 := 0) (x4 := 4)
  rw [my, m0, m4] at qw
  rcases qw with ⟨rfl, q0, q1⟩ | ⟨rfl, q0⟩
  case inr => exact absurd q0 (by omega)
  rw [ew, bs_1, if_neg (show ¬ (true = false) by decide), if_pos (show x3 ≤ (60 : Int32) by rw [Int32.le_iff_toInt_le]; omega), if_pos (show 0 ≤ x3 by rw [Int32.le_iff_toInt_le]; omega), nm_eq, ck_t (i_inb (by omega) (by omega)), nm_eq, ck_t (i_inb (by omega) (by omega)), nm_eq, nm_eq] at e9
  have e1 : ((60 : Int32) * x1).toInt = 60 * x1.toInt := i_mulLE n60 rfl (by omega) (by omega)
  obtain ⟨it, eit⟩ := rw57 (mm_is m_shelf x1 ((50 : Int32) + x2)) (mm_is m_many x1 x3) x1 hx0 hx1 700 ((60 : Int32) * x1) m_items (by omega) (by omega) hi (by omega)
  rw [eit] at e9
  injection e9 with e9
  injection e9 with z0 e9
  injection e9 with z1 e9
  injection e9 with z2 e9
  subst z1
  subst z2
  unfold fX8_row fX6_holdRow at e8
  rw [sh8_e, decide_eq_true ⟨hx0, hx1⟩, bs_1, if_neg (show ¬ (true = false) by decide), if_neg (show ¬ x2 < 0 by rw [Int32.lt_iff_toInt_lt]; omega), if_neg (show ¬ (5 : Int32) ≤ x2 by rw [Int32.le_iff_toInt_le]; omega), if_pos (show x3 ≤ (60 : Int32) by rw [Int32.le_iff_toInt_le]; omega), if_pos (show 0 ≤ x3 by rw [Int32.le_iff_toInt_le]; omega)] at e8
  rcases k6 hx0 hx1 with rfl | rfl | rfl | rfl | rfl | rfl
  · rw [if_pos rfl] at e8
    obtain ⟨w, ew, -⟩ := sf_J7_fill_d0a16 (Nat.le_refl 700) (x1 := (0 : Int64)) (p0_row := v_shelves0_items) (by omega) (by omega)
    rw [ew, bs_1, bs_4] at e8
    injection e8 with e8
    injection e8 with s0 e8
    injection e8 with s1 e8
    injection e8 with s2 e8
    injection e8 with s3 e8
    injection e8 with s4 e8
    injection e8 with s5 e8
    injection e8 with s6 e8
    injection e8 with s7 e8
    injection e8 with s8 e8
    injection e8 with s9 e8
    injection e8 with s10 e8
    injection e8 with s11 e8
    injection e8 with s12 e8
    injection e8 with s13 e8
    injection e8 with s14 e8
    injection e8 with s15 e8
    injection e8 with s16 e8
    injection e8 with s17 e8
    injection e8 with s18 e8
    injection e8 with s19 e8
    injection e8 with s20 e8
    injection e8 with s21 e8
    injection e8 with s22 e8
    injection e8 with s23 e8
    subst s1 s2 s3 s4 s5 s6 s7 s8 s9 s10 s11 s12 s13 s14 s15 s16 s17 s18 s19 s20 s21 s22 s23
    exact ⟨Or.inr (Or.inr ⟨rfl, ig_eq (by decide) (by omega), hy0, hy1, ig_eq (by decide) (by omega)⟩), sc1_ne hs hm (by decide) (by decide) (by decide) (by decide) c1, sc1_ne hs hm (by decide) (by decide) (by decide) (by decide) c2, sc1_ne hs hm (by decide) (by decide) (by decide) (by decide) c3, sc1_ne hs hm (by decide) (by decide) (by decide) (by decide) c4, sc1_ne hs hm (by decide) (by decide) (by decide) (by decide) c5⟩
  · rw [if_neg (show ¬ (1 : Int32) = 0 by decide), if_pos rfl] at e8
    obtain ⟨w, ew, -⟩ := sf_J7_fill_d0a16 (Nat.le_refl 700) (x1 := (0 : Int64)) (p0_row := v_shelves1_items) (by omega) (by omega)
    rw [ew, bs_1, bs_4] at e8
    injection e8 with e8
    injection e8 with s0 e8
    injection e8 with s1 e8
    injection e8 with s2 e8
    injection e8 with s3 e8
    injection e8 with s4 e8
    injection e8 with s5 e8
    injection e8 with s6 e8
    injection e8 with s7 e8
    injection e8 with s8 e8
    injection e8 with s9 e8
    injection e8 with s10 e8
    injection e8 with s11 e8
    injection e8 with s12 e8
    injection e8 with s13 e8
    injection e8 with s14 e8
    injection e8 with s15 e8
    injection e8 with s16 e8
    injection e8 with s17 e8
    injection e8 with s18 e8
    injection e8 with s19 e8
    injection e8 with s20 e8
    injection e8 with s21 e8
    injection e8 with s22 e8
    injection e8 with s23 e8
    subst s1 s2 s3 s4 s5 s6 s7 s8 s9 s10 s11 s12 s13 s14 s15 s16 s17 s18 s19 s20 s21 s22 s23
    exact ⟨sc1_ne hs hm (by decide) (by decide) (by decide) (by decide) c0, Or.inr (Or.inr ⟨rfl, ig_eq (by decide) (by omega), hy0, hy1, ig_eq (by decide) (by omega)⟩), sc1_ne hs hm (by decide) (by decide) (by decide) (by decide) c2, sc1_ne hs hm (by decide) (by decide) (by decide) (by decide) c3, sc1_ne hs hm (by decide) (by decide) (by decide) (by decide) c4, sc1_ne hs hm (by decide) (by decide) (by decide) (by decide) c5⟩
  · rw [if_neg (show ¬ (2 : Int32) = 0 by decide), if_neg (show ¬ (2 : Int32) = 1 by decide), if_pos rfl] at e8
    obtain ⟨w, ew, -⟩ := sf_J7_fill_d0a16 (Nat.le_refl 700) (x1 := (0 : Int64)) (p0_row := v_shelves2_items) (by omega) (by omega)
    rw [ew, bs_1, bs_4] at e8
    injection e8 with e8
    injection e8 with s0 e8
    injection e8 with s1 e8
    injection e8 with s2 e8
    injection e8 with s3 e8
    injection e8 with s4 e8
    injection e8 with s5 e8
    injection e8 with s6 e8
    injection e8 with s7 e8
    injection e8 with s8 e8
    injection e8 with s9 e8
    injection e8 with s10 e8
    injection e8 with s11 e8
    injection e8 with s12 e8
    injection e8 with s13 e8
    injection e8 with s14 e8
    injection e8 with s15 e8
    injection e8 with s16 e8
    injection e8 with s17 e8
    injection e8 with s18 e8
    injection e8 with s19 e8
    injection e8 with s20 e8
    injection e8 with s21 e8
    injection e8 with s22 e8
    injection e8 with s23 e8
    subst s1 s2 s3 s4 s5 s6 s7 s8 s9 s10 s11 s12 s13 s14 s15 s16 s17 s18 s19 s20 s21 s22 s23
    exact ⟨sc1_ne hs hm (by decide) (by decide) (by decide) (by decide) c0, sc1_ne hs hm (by decide) (by decide) (by decide) (by decide) c1, Or.inr (Or.inr ⟨rfl, ig_eq (by decide) (by omega), hy0, hy1, ig_eq (by decide) (by omega)⟩), sc1_ne hs hm (by decide) (by decide) (by decide) (by decide) c3, sc1_ne hs hm (by decide) (by decide) (by decide) (by decide) c4, sc1_ne hs hm (by decide) (by decide) (by decide) (by decide) c5⟩
  · rw [if_neg (show ¬ (3 : Int32) = 0 by decide), if_neg (show ¬ (3 : Int32) = 1 by decide), if_neg (show ¬ (3 : Int32) = 2 by decide), if_pos rfl] at e8
    obtain ⟨w, ew, -⟩ := sf_J7_fill_d0a16 (Nat.le_refl 700) (x1 := (0 : Int64)) (p0_row := v_shelves3_items) (by omega) (by omega)
    rw [ew, bs_1, bs_4] at e8
    injection e8 with e8
    injection e8 with s0 e8
    injection e8 with s1 e8
    injection e8 with s2 e8
    injection e8 with s3 e8
    injection e8 with s4 e8
    injection e8 with s5 e8
    injection e8 with s6 e8
    injection e8 with s7 e8
    injection e8 with s8 e8
    injection e8 with s9 e8
    injection e8 with s10 e8
    injection e8 with s11 e8
    injection e8 with s12 e8
    injection e8 with s13 e8
    injection e8 with s14 e8
    injection e8 with s15 e8
    injection e8 with s16 e8
    injection e8 with s17 e8
    injection e8 with s18 e8
    injection e8 with s19 e8
    injection e8 with s20 e8
    injection e8 with s21 e8
    injection e8 with s22 e8
    injection e8 with s23 e8
    subst s1 s2 s3 s4 s5 s6 s7 s8 s9 s10 s11 s12 s13 s14 s15 s16 s17 s18 s19 s20 s21 s22 s23
    exact ⟨sc1_ne hs hm (by decide) (by decide) (by decide) (by decide) c0, sc1_ne hs hm (by decide) (by decide) (by decide) (by decide) c1, sc1_ne hs hm (by decide) (by decide) (by decide) (by decide) c2, Or.inr (Or.inr ⟨rfl, ig_eq (by decide) (by omega), hy0, hy1, ig_eq (by decide) (by omega)⟩), sc1_ne hs hm (by decide) (by decide) (by decide) (by decide) c4, sc1_ne hs hm (by decide) (by decide) (by decide) (by decide) c5⟩
  · rw [if_neg (show ¬ (4 : Int32) = 0 by decide), if_neg (show ¬ (4 : Int32) = 1 by decide), if_neg (show ¬ (4 : Int32) = 2 by decide), if_neg (show ¬ (4 : Int32) = 3 by decide), if_pos rfl] at e8
    obtain ⟨w, ew, -⟩ := sf_J7_fill_d0a16 (Nat.le_refl 700) (x1 := (0 : Int64)) (p0_row := v_shelves4_items) (by omega) (by omega)
    rw [ew, bs_1, bs_4] at e8
    injection e8 with e8
    injection e8 with s0 e8
    injection e8 with s1 e8
    injection e8 with s2 e8
    injection e8 with s3 e8
    injection e8 with s4 e8
    injection e8 with s5 e8
    injection e8 with s6 e8
    injection e8 with s7 e8
    injection e8 with s8 e8
    injection e8 with s9 e8
    injection e8 with s10 e8
    injection e8 with s11 e8
    injection e8 with s12 e8
    injection e8 with s13 e8
    injection e8 with s14 e8
    injection e8 with s15 e8
    injection e8 with s16 e8
    injection e8 with s17 e8
    injection e8 with s18 e8
    injection e8 with s19 e8
    injection e8 with s20 e8
    injection e8 with s21 e8
    injection e8 with s22 e8
    injection e8 with s23 e8
    subst s1 s2 s3 s4 s5 s6 s7 s8 s9 s10 s11 s12 s13 s14 s15 s16 s17 s18 s19 s20 s21 s22 s23
    exact ⟨sc1_ne hs hm (by decide) (by decide) (by decide) (by decide) c0, sc1_ne hs hm (by decide) (by decide) (by decide) (by decide) c1, sc1_ne hs hm (by decide) (by decide) (by decide) (by decide) c2, sc1_ne hs hm (by decide) (by decide) (by decide) (by decide) c3, Or.inr (Or.inr ⟨rfl, ig_eq (by decide) (by omega), hy0, hy1, ig_eq (by decide) (by omega)⟩), sc1_ne hs hm (by decide) (by decide) (by decide) (by decide) c5⟩
  · rw [if_neg (show ¬ (5 : Int32) = 0 by decide), if_neg (show ¬ (5 : Int32) = 1 by decide), if_neg (show ¬ (5 : Int32) = 2 by decide), if_neg (show ¬ (5 : Int32) = 3 by decide), if_neg (show ¬ (5 : Int32) = 4 by decide), if_pos rfl] at e8
    obtain ⟨w, ew, -⟩ := sf_J7_fill_d0a16 (Nat.le_refl 700) (x1 := (0 : Int64)) (p0_row := v_shelves5_items) (by omega) (by omega)
    rw [ew, bs_1, bs_4] at e8
    injection e8 with e8
    injection e8 with s0 e8
    injection e8 with s1 e8
    injection e8 with s2 e8
    injection e8 with s3 e8
    injection e8 with s4 e8
    injection e8 with s5 e8
    injection e8 with s6 e8
    injection e8 with s7 e8
    injection e8 with s8 e8
    injection e8 with s9 e8
    injection e8 with s10 e8
    injection e8 with s11 e8
    injection e8 with s12 e8
    injection e8 with s13 e8
    injection e8 with s14 e8
    injection e8 with s15 e8
    injection e8 with s16 e8
    injection e8 with s17 e8
    injection e8 with s18 e8
    injection e8 with s19 e8
    injection e8 with s20 e8
    injection e8 with s21 e8
    injection e8 with s22 e8
    injection e8 with s23 e8
    subst s1 s2 s3 s4 s5 s6 s7 s8 s9 s10 s11 s12 s13 s14 s15 s16 s17 s18 s19 s20 s21 s22 s23
    exact ⟨sc1_ne hs hm (by decide) (by decide) (by decide) (by decide) c0, sc1_ne hs hm (by decide) (by decide) (by decide) (by decide) c1, sc1_ne hs hm (by decide) (by decide) (by decide) (by decide) c2, sc1_ne hs hm (by decide) (by decide) (by decide) (by decide) c3, sc1_ne hs hm (by decide) (by decide) (by decide) (by decide) c4, Or.inr (Or.inr ⟨rfl, ig_eq (by decide) (by omega), hy0, hy1, ig_eq (by decide) (by omega)⟩)⟩
theorem rs_row_sc {x1 : Int32} {x2 : Int32} {x3 : Int32} {v_shelves0_holds : Int32} {v_shelves0_sort : Int32} {v_shelves0_size : Int32} {v_shelves0_items : List Int64} {v_shelves1_holds : Int32} {v_shelves1_sort : Int32} {v_shelves1_size : Int32} {v_shelves1_items : List Int64} {v_shelves2_holds : Int32} {v_shelves2_sort : Int32} {v_shelves2_size : Int32} {v_shelves2_items : List Int64} {v_shelves3_holds : Int32} {v_shelves3_sort : Int32} {v_shelves3_size : Int32} {v_shelves3_items : List Int64} {v_shelves4_holds : Int32} {v_shelves4_sort : Int32} {v_shelves4_size : Int32} {v_shelves4_items : List Int64} {v_shelves5_holds : Int32} {v_shelves5_sort : Int32} {v_shelves5_size : Int32} {v_shelves5_items : List Int64} {v_foldings_size : Int32} {v_shelves0_body : Int32} {v_shelves1_body : Int32} {v_shelves2_body : Int32} {v_shelves3_body : Int32} {v_shelves4_body : Int32} {v_shelves5_body : Int32} {m_shelf : List Int32} {m_many : List Int32} {m_items : List Int64} {m_carried : List Int64} (g8_0 : gi_sf v_shelves0_size v_shelves0_items) (g8_1 : gi_sf v_shelves1_size v_shelves1_items) (g8_2 : gi_sf v_shelves2_size v_shelves2_items) (g8_3 : gi_sf v_shelves3_size v_shelves3_items) (g8_4 : gi_sf v_shelves4_size v_shelves4_items) (g8_5 : gi_sf v_shelves5_size v_shelves5_items) (g9_0 : gm_sf m_shelf m_many m_items m_carried) (hr_0 : rl_sc v_foldings_size v_shelves0_holds v_shelves0_body v_shelves0_sort v_shelves0_size v_shelves1_holds v_shelves1_body v_shelves1_sort v_shelves1_size v_shelves2_holds v_shelves2_body v_shelves2_sort v_shelves2_size v_shelves3_holds v_shelves3_body v_shelves3_sort v_shelves3_size v_shelves4_holds v_shelves4_body v_shelves4_sort v_shelves4_size v_shelves5_holds v_shelves5_body v_shelves5_sort v_shelves5_size m_shelf m_many) : ∃ (r : Int32) (p_shelves0_holds : Int32) (p_shelves0_sort : Int32) (p_shelves0_size : Int32) (p_shelves0_items : List Int64) (p_shelves1_holds : Int32) (p_shelves1_sort : Int32) (p_shelves1_size : Int32) (p_shelves1_items : List Int64) (p_shelves2_holds : Int32) (p_shelves2_sort : Int32) (p_shelves2_size : Int32) (p_shelves2_items : List Int64) (p_shelves3_holds : Int32) (p_shelves3_sort : Int32) (p_shelves3_size : Int32) (p_shelves3_items : List Int64) (p_shelves4_holds : Int32) (p_shelves4_sort : Int32) (p_shelves4_size : Int32) (p_shelves4_items : List Int64) (p_shelves5_holds : Int32) (p_shelves5_sort : Int32) (p_shelves5_size : Int32) (p_shelves5_items : List Int64) (q_shelf : List Int32) (q_many : List Int32) (q_items : List Int64), fX8_row 700 x1 x2 x3 v_shelves0_holds v_shelves0_sort v_shelves0_size v_shelves0_items v_shelves1_holds v_shelves1_sort v_shelves1_size v_shelves1_items v_shelves2_holds v_shelves2_sort v_shelves2_size v_shelves2_items v_shelves3_holds v_shelves3_sort v_shelves3_size v_shelves3_items v_shelves4_holds v_shelves4_sort v_shelves4_size v_shelves4_items v_shelves5_holds v_shelves5_sort v_shelves5_size v_shelves5_items = some (r, p_shelves0_holds, p_shelves0_sort, p_shelves0_size, p_shelves0_items, p_shelves1_holds, p_shelves1_sort, p_shelves1_size, p_shelves1_items, p_shelves2_holds, p_shelves2_sort, p_shelves2_size, p_shelves2_items, p_shelves3_holds, p_shelves3_sort, p_shelves3_size, p_shelves3_items, p_shelves4_holds, p_shelves4_sort, p_shelves4_size, p_shelves4_items, p_shelves5_holds, p_shelves5_sort, p_shelves5_size, p_shelves5_items) ∧ fX9_row 700 x1 x2 x3 m_shelf m_many m_items = some (r, q_shelf, q_many, q_items) ∧ gi_sf p_shelves0_size p_shelves0_items ∧ gi_sf p_shelves1_size p_shelves1_items ∧ gi_sf p_shelves2_size p_shelves2_items ∧ gi_sf p_shelves3_size p_shelves3_items ∧ gi_sf p_shelves4_size p_shelves4_items ∧ gi_sf p_shelves5_size p_shelves5_items ∧ gm_sf q_shelf q_many q_items m_carried ∧ rl_sc v_foldings_size p_shelves0_holds v_shelves0_body p_shelves0_sort p_shelves0_size p_shelves1_holds v_shelves1_body p_shelves1_sort p_shelves1_size p_shelves2_holds v_shelves2_body p_shelves2_sort p_shelves2_size p_shelves3_holds v_shelves3_body p_shelves3_sort p_shelves3_size p_shelves4_holds v_shelves4_body p_shelves4_sort p_shelves4_size p_shelves5_holds v_shelves5_body p_shelves5_sort p_shelves5_size q_shelf q_many := by
  obtain ⟨b0, b1, b2, b3, b4⟩ := id g9_0
  obtain ⟨-, -, l0⟩ := id g8_0
  obtain ⟨-, -, l1⟩ := id g8_1
  obtain ⟨-, -, l2⟩ := id g8_2
  obtain ⟨-, -, l3⟩ := id g8_3
  obtain ⟨-, -, l4⟩ := id g8_4
  obtain ⟨-, -, l5⟩ := id g8_5
  have n60 : (60 : Int32).toInt = 60 := by decide
  have n5 : (5 : Int32).toInt = 5 := by decide
  have n0 : (0 : Int32).toInt = 0 := by decide
  have m0 : (0 : Int64).toInt = 0 := by decide
  have m4 : (4 : Int64).toInt = 4 := by decide
  have my := i_64 x2
  by_cases ok : (0 ≤ x1.toInt ∧ x1.toInt ≤ 5) ∧ (0 ≤ x2.toInt ∧ x2.toInt ≤ 4) ∧ (0 ≤ x3.toInt ∧ x3.toInt ≤ 60)
  · obtain ⟨⟨r8, p0, p1, p2, p3, p4, p5, p6, p7, p8, p9, p10, p11, p12, p13, p14, p15, p16, p17, p18, p19, p20, p21, p22, p23⟩, e8, h8⟩ := sx8_row (x1 := x1) (x2 := x2) (x3 := x3) (v_shelves0_holds := v_shelves0_holds) (v_shelves0_sort := v_shelves0_sort) (v_shelves1_holds := v_shelves1_holds) (v_shelves1_sort := v_shelves1_sort) (v_shelves2_holds := v_shelves2_holds) (v_shelves2_sort := v_shelves2_sort) (v_shelves3_holds := v_shelves3_holds) (v_shelves3_sort := v_shelves3_sort) (v_shelves4_holds := v_shelves4_holds) (v_shelves4_sort := v_shelves4_sort) (v_shelves5_holds := v_shelves5_holds) (v_shelves5_sort := v_shelves5_sort) g8_0 g8_1 g8_2 g8_3 g8_4 g8_5
    obtain ⟨⟨r9, q0, q1, q2⟩, e9, h9⟩ := sx9_row (x1 := x1) (x2 := x2) (x3 := x3) g9_0
    simp only [cu25] at h8
    simp only [cu4] at h9
    have er : r9 = r8 := ti_eq (by omega)
    subst er
    have R := rw_ok ok.1.1 ok.1.2 ok.2.1.1 ok.2.1.2 b0 b1 b2 l0 l1 l2 l3 l4 l5 hr_0 e8 e9 ok.2.2.1 ok.2.2.2
    have k8 := wp_get (st8_row g8_0 g8_1 g8_2 g8_3 g8_4 g8_5) e8
    have k9 := wp_get (st9_row g9_0) e9
    exact ⟨_, _, _, _, _, _, _, _, _, _, _, _, _, _, _, _, _, _, _, _, _, _, _, _, _, _, _, _, e8, e9, k8.1, k8.2.1, k8.2.2.1, k8.2.2.2.1, k8.2.2.2.2.1, k8.2.2.2.2.2, k9, R⟩
  · have X : ∃ r : Int32, fX8_row 700 x1 x2 x3 v_shelves0_holds v_shelves0_sort v_shelves0_size v_shelves0_items v_shelves1_holds v_shelves1_sort v_shelves1_size v_shelves1_items v_shelves2_holds v_shelves2_sort v_shelves2_size v_shelves2_items v_shelves3_holds v_shelves3_sort v_shelves3_size v_shelves3_items v_shelves4_holds v_shelves4_sort v_shelves4_size v_shelves4_items v_shelves5_holds v_shelves5_sort v_shelves5_size v_shelves5_items = some (r, v_shelves0_holds, v_shelves0_sort, v_shelves0_size, v_shelves0_items, v_shelves1_holds, v_shelves1_sort, v_shelves1_size, v_shelves1_items, v_shelves2_holds, v_shelves2_sort, v_shelves2_size, v_shelves2_items, v_shelves3_holds, v_shelves3_sort, v_shelves3_size, v_shelves3_items, v_shelves4_holds, v_shelves4_sort, v_shelves4_size, v_shelves4_items, v_shelves5_holds, v_shelves5_sort, v_shelves5_size, v_shelves5_items) ∧ fX9_row 700 x1 x2 x3 m_shelf m_many m_items = some (r, m_shelf, m_many, m_items) := by
      unfold fX8_row fX9_row
      rw [sh8_e, sh9_e, bs_1, bs_1]
      by_cases hx : 0 ≤ x1.toInt ∧ x1.toInt ≤ 5
      · rw [decide_eq_true hx, if_neg (show ¬ (true = false) by decide), if_neg (show ¬ (true = false) by decide)]
        obtain ⟨w, ew, qw⟩ := sf_X9_within (Nat.le_refl 700) (x0 := x2.toInt64) (x2 := 0) (x4 := 4)
        rw [ew, bs_1]
        rw [my, m0, m4] at qw
        rcases qw with ⟨rfl, y0, y1⟩ | ⟨rfl, y0⟩
        · rw [if_neg (show ¬ x2 < 0 by rw [Int32.lt_iff_toInt_lt]; omega), if_neg (show ¬ (5 : Int32) ≤ x2 by rw [Int32.le_iff_toInt_le]; omega), if_neg (show ¬ (true = false) by decide)]
          by_cases hz : x3 ≤ (60 : Int32)
          · rw [if_pos hz, if_pos hz]
            by_cases h0 : 0 ≤ x3
            · rw [Int32.le_iff_toInt_le] at hz h0
              exact absurd ⟨hx, ⟨y0, y1⟩, by omega, by omega⟩ ok
            · rw [if_neg h0, if_neg h0]
              exact ⟨_, rfl, rfl⟩
          · rw [if_neg hz, if_neg hz]
            exact ⟨_, rfl, rfl⟩
        · rw [if_pos (rfl : false = false)]
          by_cases c : x2 < 0
          · rw [if_pos c]
            exact ⟨_, rfl, rfl⟩
          · rw [if_neg c, if_pos (show (5 : Int32) ≤ x2 by rw [Int32.lt_iff_toInt_lt] at c; rw [Int32.le_iff_toInt_le]; omega)]
            exact ⟨_, rfl, rfl⟩
      · rw [decide_eq_false hx, if_pos rfl, if_pos rfl]
        exact ⟨_, rfl, rfl⟩
    obtain ⟨r, e8, e9⟩ := X
    have k8 := wp_get (st8_row g8_0 g8_1 g8_2 g8_3 g8_4 g8_5) e8
    have k9 := wp_get (st9_row g9_0) e9
    exact ⟨_, _, _, _, _, _, _, _, _, _, _, _, _, _, _, _, _, _, _, _, _, _, _, _, _, _, _, _, e8, e9, k8.1, k8.2.1, k8.2.2.1, k8.2.2.2.1, k8.2.2.2.2.1, k8.2.2.2.2.2, k9, hr_0⟩
theorem hp1 {x s : Int32} (h0 : 0 ≤ s.toInt) (h1 : s.toInt ≤ 60) : fX6_hasPart 700 x (1 : Int32) s = some (decide (0 ≤ x.toInt ∧ x.toInt < s.toInt)) := by
  have n0 : (0 : Int32).toInt = 0 := by decide
  have n1 : (1 : Int32).toInt = 1 := by decide
  have hx := Int32.toInt_lt x
  unfold fX6_hasPart
  by_cases c : x < 0
  · rw [if_pos c, decide_eq_false (by rw [Int32.lt_iff_toInt_lt] at c; omega)]
  · rw [if_neg c]
    rw [Int32.lt_iff_toInt_lt] at c
    by_cases d : s < x
    · rw [if_pos d, decide_eq_false (by rw [Int32.lt_iff_toInt_lt] at d; omega)]
    · rw [if_neg d]
      rw [Int32.lt_iff_toInt_lt] at d
      have e : (s - x).toInt = s.toInt - x.toInt := by rw [i_subE rfl (by omega) (by omega)]
      by_cases f : s - x < (1 : Int32)
      · rw [if_pos f, decide_eq_false (by rw [Int32.lt_iff_toInt_lt, e] at f; omega)]
      · rw [if_neg f, decide_eq_true (by rw [Int32.lt_iff_toInt_lt, e] at f; omega)]
theorem rf_e {x1 x2 : Int32} {v_foldings_size : Int32} {v_shelves0_holds : Int32} {v_shelves0_body : Int32} {v_shelves0_sort : Int32} {v_shelves0_size : Int32} {v_shelves1_holds : Int32} {v_shelves1_body : Int32} {v_shelves1_sort : Int32} {v_shelves1_size : Int32} {v_shelves2_holds : Int32} {v_shelves2_body : Int32} {v_shelves2_sort : Int32} {v_shelves2_size : Int32} {v_shelves3_holds : Int32} {v_shelves3_body : Int32} {v_shelves3_sort : Int32} {v_shelves3_size : Int32} {v_shelves4_holds : Int32} {v_shelves4_body : Int32} {v_shelves4_sort : Int32} {v_shelves4_size : Int32} {v_shelves5_holds : Int32} {v_shelves5_body : Int32} {v_shelves5_sort : Int32} {v_shelves5_size : Int32} {m_shelf m_many : List Int32} (hs : m_shelf.length = 6) (hm : m_many.length = 6) (a0 : 0 ≤ v_shelves0_size.toInt) (b0 : v_shelves0_size.toInt ≤ 60) (a1 : 0 ≤ v_shelves1_size.toInt) (b1 : v_shelves1_size.toInt ≤ 60) (a2 : 0 ≤ v_shelves2_size.toInt) (b2 : v_shelves2_size.toInt ≤ 60) (a3 : 0 ≤ v_shelves3_size.toInt) (b3 : v_shelves3_size.toInt ≤ 60) (a4 : 0 ≤ v_shelves4_size.toInt) (b4 : v_shelves4_size.toInt ≤ 60) (a5 : 0 ≤ v_shelves5_size.toInt) (b5 : v_shelves5_size.toInt ≤ 60) (H : rl_sc v_foldings_size v_shelves0_holds v_shelves0_body v_shelves0_sort v_shelves0_size v_shelves1_holds v_shelves1_body v_shelves1_sort v_shelves1_size v_shelves2_holds v_shelves2_body v_shelves2_sort v_shelves2_size v_shelves3_holds v_shelves3_body v_shelves3_sort v_shelves3_size v_shelves4_holds v_shelves4_body v_shelves4_sort v_shelves4_size v_shelves5_holds v_shelves5_body v_shelves5_sort v_shelves5_size m_shelf m_many) : ∃ r : Int32, fX8_refusedElement 700 x1 x2 v_shelves0_holds v_shelves0_size v_shelves1_holds v_shelves1_size v_shelves2_holds v_shelves2_size v_shelves3_holds v_shelves3_size v_shelves4_holds v_shelves4_size v_shelves5_holds v_shelves5_size = some r ∧ fX9_refusal 700 x1 x2 m_shelf m_many = some r ∧ (r = 0 → 0 ≤ x1.toInt ∧ x1.toInt ≤ 5) := by
  obtain ⟨c0, c1, c2, c3, c4, c5⟩ := H
  have n0 : (0 : Int32).toInt = 0 := by decide
  have n50 : (50 : Int32).toInt = 50 := by decide
  unfold fX8_refusedElement fX9_refusal
  rw [sh8_e, sh9_e, bs_1, bs_1]
  by_cases hx : 0 ≤ x1.toInt ∧ x1.toInt ≤ 5
  · rw [decide_eq_true hx, if_neg (show ¬ (true = false) by decide), if_neg (show ¬ (true = false) by decide), ck_t (i_inb hx.1 (by omega))]
    rcases k6 hx.1 hx.2 with rfl | rfl | rfl | rfl | rfl | rfl
    · rw [if_pos (rfl : (0 : Int32) = 0)]
      rcases c0 with ⟨h1, h2⟩ | ⟨h1, h2, h3, h4, h5⟩ | ⟨h1, h2, h3, h4, h5⟩
      · rw [h1, h2, if_pos rfl, if_neg (show ¬ 0 ≤ (-1 : Int32) by decide)]
        exact ⟨_, rfl, rfl, fun _ => hx⟩
      · rw [h1, h2, if_neg (show ¬ (1 : Int32) = 0 by decide), if_pos rfl, if_pos (by rw [Int32.le_iff_toInt_le]; omega), ck_t (i_inb hx.1 (by omega)), if_neg (by rw [Int32.le_iff_toInt_le]; omega)]
        exact ⟨_, rfl, rfl, fun _ => hx⟩
      · have e : ((50 : Int32) + v_shelves0_sort).toInt = 50 + v_shelves0_sort.toInt := by rw [i_addE rfl (by omega) (by omega), n50]
        rw [h1, h2, h5, if_neg (show ¬ (2 : Int32) = 0 by decide), if_neg (show ¬ (2 : Int32) = 1 by decide), hp1 a0 b0, bs_1, if_pos (show (0 : Int32) ≤ (50 : Int32) + v_shelves0_sort by rw [Int32.le_iff_toInt_le]; omega), ck_t (i_inb hx.1 (by omega)), if_pos (show (50 : Int32) ≤ (50 : Int32) + v_shelves0_sort by rw [Int32.le_iff_toInt_le]; omega)]
        by_cases d : 0 ≤ x2.toInt ∧ x2.toInt < v_shelves0_size.toInt
        · rw [decide_eq_true d, if_neg (show ¬ (true = false) by decide), if_neg (show ¬ x2 < 0 by rw [Int32.lt_iff_toInt_lt]; omega), ck_t (i_inb hx.1 (by omega)), if_neg (show ¬ v_shelves0_size ≤ x2 by rw [Int32.le_iff_toInt_le]; omega)]
          exact ⟨_, rfl, rfl, fun _ => hx⟩
        · rw [decide_eq_false d, if_pos rfl]
          by_cases c : x2 < 0
          · rw [if_pos c]
            exact ⟨_, rfl, rfl, fun _ => hx⟩
          · rw [if_neg c, ck_t (i_inb hx.1 (by omega)), if_pos (show v_shelves0_size ≤ x2 by rw [Int32.lt_iff_toInt_lt] at c; rw [Int32.le_iff_toInt_le]; omega)]
            exact ⟨_, rfl, rfl, fun _ => hx⟩
    · rw [if_neg (show ¬ (1 : Int32) = 0 by decide), if_pos (rfl : (1 : Int32) = 1)]
      rcases c1 with ⟨h1, h2⟩ | ⟨h1, h2, h3, h4, h5⟩ | ⟨h1, h2, h3, h4, h5⟩
      · rw [h1, h2, if_pos rfl, if_neg (show ¬ 0 ≤ (-1 : Int32) by decide)]
        exact ⟨_, rfl, rfl, fun _ => hx⟩
      · rw [h1, h2, if_neg (show ¬ (1 : Int32) = 0 by decide), if_pos rfl, if_pos (by rw [Int32.le_iff_toInt_le]; omega), ck_t (i_inb hx.1 (by omega)), if_neg (by rw [Int32.le_iff_toInt_le]; omega)]
        exact ⟨_, rfl, rfl, fun _ => hx⟩
      · have e : ((50 : Int32) + v_shelves1_sort).toInt = 50 + v_shelves1_sort.toInt := by rw [i_addE rfl (by omega) (by omega), n50]
        rw [h1, h2, h5, if_neg (show ¬ (2 : Int32) = 0 by decide), if_neg (show ¬ (2 : Int32) = 1 by decide), hp1 a1 b1, bs_1, if_pos (show (0 : Int32) ≤ (50 : Int32) + v_shelves1_sort by rw [Int32.le_iff_toInt_le]; omega), ck_t (i_inb hx.1 (by omega)), if_pos (show (50 : Int32) ≤ (50 : Int32) + v_shelves1_sort by rw [Int32.le_iff_toInt_le]; omega)]
        by_cases d : 0 ≤ x2.toInt ∧ x2.toInt < v_shelves1_size.toInt
        · rw [decide_eq_true d, if_neg (show ¬ (true = false) by decide), if_neg (show ¬ x2 < 0 by rw [Int32.lt_iff_toInt_lt]; omega), ck_t (i_inb hx.1 (by omega)), if_neg (show ¬ v_shelves1_size ≤ x2 by rw [Int32.le_iff_toInt_le]; omega)]
          exact ⟨_, rfl, rfl, fun _ => hx⟩
        · rw [decide_eq_false d, if_pos rfl]
          by_cases c : x2 < 0
          · rw [if_pos c]
            exact ⟨_, rfl, rfl, fun _ => hx⟩
          · rw [if_neg c, ck_t (i_inb hx.1 (by omega)), if_pos (show v_shelves1_size ≤ x2 by rw [Int32.lt_iff_toInt_lt] at c; rw [Int32.le_iff_toInt_le]; omega)]
            exact ⟨_, rfl, rfl, fun _ => hx⟩
    · rw [if_neg (show ¬ (2 : Int32) = 0 by decide), if_neg (show ¬ (2 : Int32) = 1 by decide), if_pos (rfl : (2 : Int32) = 2)]
      rcases c2 with ⟨h1, h2⟩ | ⟨h1, h2, h3, h4, h5⟩ | ⟨h1, h2, h3, h4, h5⟩
      · rw [h1, h2, if_pos rfl, if_neg (show ¬ 0 ≤ (-1 : Int32) by decide)]
        exact ⟨_, rfl, rfl, fun _ => hx⟩
      · rw [h1, h2, if_neg (show ¬ (1 : Int32) = 0 by decide), if_pos rfl, if_pos (by rw [Int32.le_iff_toInt_le]; omega), ck_t (i_inb hx.1 (by omega)), if_neg (by rw [Int32.le_iff_toInt_le]; omega)]
        exact ⟨_, rfl, rfl, fun _ => hx⟩
      · have e : ((50 : Int32) + v_shelves2_sort).toInt = 50 + v_shelves2_sort.toInt := by rw [i_addE rfl (by omega) (by omega), n50]
        rw [h1, h2, h5, if_neg (show ¬ (2 : Int32) = 0 by decide), if_neg (show ¬ (2 : Int32) = 1 by decide), hp1 a2 b2, bs_1, if_pos (show (0 : Int32) ≤ (50 : Int32) + v_shelves2_sort by rw [Int32.le_iff_toInt_le]; omega), ck_t (i_inb hx.1 (by omega)), if_pos (show (50 : Int32) ≤ (50 : Int32) + v_shelves2_sort by rw [Int32.le_iff_toInt_le]; omega)]
        by_cases d : 0 ≤ x2.toInt ∧ x2.toInt < v_shelves2_size.toInt
        · rw [decide_eq_true d, if_neg (show ¬ (true = false) by decide), if_neg (show ¬ x2 < 0 by rw [Int32.lt_iff_toInt_lt]; omega), ck_t (i_inb hx.1 (by omega)), if_neg (show ¬ v_shelves2_size ≤ x2 by rw [Int32.le_iff_toInt_le]; omega)]
          exact ⟨_, rfl, rfl, fun _ => hx⟩
        · rw [decide_eq_false d, if_pos rfl]
          by_cases c : x2 < 0
          · rw [if_pos c]
            exact ⟨_, rfl, rfl, fun _ => hx⟩
          · rw [if_neg c, ck_t (i_inb hx.1 (by omega)), if_pos (show v_shelves2_size ≤ x2 by rw [Int32.lt_iff_toInt_lt] at c; rw [Int32.le_iff_toInt_le]; omega)]
            exact ⟨_, rfl, rfl, fun _ => hx⟩
    · rw [if_neg (show ¬ (3 : Int32) = 0 by decide), if_neg (show ¬ (3 : Int32) = 1 by decide), if_neg (show ¬ (3 : Int32) = 2 by decide), if_pos (rfl : (3 : Int32) = 3)]
      rcases c3 with ⟨h1, h2⟩ | ⟨h1, h2, h3, h4, h5⟩ | ⟨h1, h2, h3, h4, h5⟩
      · rw [h1, h2, if_pos rfl, if_neg (show ¬ 0 ≤ (-1 : Int32) by decide)]
        exact ⟨_, rfl, rfl, fun _ => hx⟩
      · rw [h1, h2, if_neg (show ¬ (1 : Int32) = 0 by decide), if_pos rfl, if_pos (by rw [Int32.le_iff_toInt_le]; omega), ck_t (i_inb hx.1 (by omega)), if_neg (by rw [Int32.le_iff_toInt_le]; omega)]
        exact ⟨_, rfl, rfl, fun _ => hx⟩
      · have e : ((50 : Int32) + v_shelves3_sort).toInt = 50 + v_shelves3_sort.toInt := by rw [i_addE rfl (by omega) (by omega), n50]
        rw [h1, h2, h5, if_neg (show ¬ (2 : Int32) = 0 by decide), if_neg (show ¬ (2 : Int32) = 1 by decide), hp1 a3 b3, bs_1, if_pos (show (0 : Int32) ≤ (50 : Int32) + v_shelves3_sort by rw [Int32.le_iff_toInt_le]; omega), ck_t (i_inb hx.1 (by omega)), if_pos (show (50 : Int32) ≤ (50 : Int32) + v_shelves3_sort by rw [Int32.le_iff_toInt_le]; omega)]
        by_cases d : 0 ≤ x2.toInt ∧ x2.toInt < v_shelves3_size.toInt
        · rw [decide_eq_true d, if_neg (show ¬ (true = false) by decide), if_neg (show ¬ x2 < 0 by rw [Int32.lt_iff_toInt_lt]; omega), ck_t (i_inb hx.1 (by omega)), if_neg (show ¬ v_shelves3_size ≤ x2 by rw [Int32.le_iff_toInt_le]; omega)]
          exact ⟨_, rfl, rfl, fun _ => hx⟩
        · rw [decide_eq_false d, if_pos rfl]
          by_cases c : x2 < 0
          · rw [if_pos c]
            exact ⟨_, rfl, rfl, fun _ => hx⟩
          · rw [if_neg c, ck_t (i_inb hx.1 (by omega)), if_pos (show v_shelves3_size ≤ x2 by rw [Int32.lt_iff_toInt_lt] at c; rw [Int32.le_iff_toInt_le]; omega)]
            exact ⟨_, rfl, rfl, fun _ => hx⟩
    · rw [if_neg (show ¬ (4 : Int32) = 0 by decide), if_neg (show ¬ (4 : Int32) = 1 by decide), if_neg (show ¬ (4 : Int32) = 2 by decide), if_neg (show ¬ (4 : Int32) = 3 by decide), if_pos (rfl : (4 : Int32) = 4)]
      rcases c4 with ⟨h1, h2⟩ | ⟨h1, h2, h3, h4, h5⟩ | ⟨h1, h2, h3, h4, h5⟩
      · rw [h1, h2, if_pos rfl, if_neg (show ¬ 0 ≤ (-1 : Int32) by decide)]
        exact ⟨_, rfl, rfl, fun _ => hx⟩
      · rw [h1, h2, if_neg (show ¬ (1 : Int32) = 0 by decide), if_pos rfl, if_pos (by rw [Int32.le_iff_toInt_le]; omega), ck_t (i_inb hx.1 (by omega)), if_neg (by rw [Int32.le_iff_toInt_le]; omega)]
        exact ⟨_, rfl, rfl, fun _ => hx⟩
      · have e : ((50 : Int32) + v_shelves4_sort).toInt = 50 + v_shelves4_sort.toInt := by rw [i_addE rfl (by omega) (by omega), n50]
        rw [h1, h2, h5, if_neg (show ¬ (2 : Int32) = 0 by decide), if_neg (show ¬ (2 : Int32) = 1 by decide), hp1 a4 b4, bs_1, if_pos (show (0 : Int32) ≤ (50 : Int32) + v_shelves4_sort by rw [Int32.le_iff_toInt_le]; omega), ck_t (i_inb hx.1 (by omega)), if_pos (show (50 : Int32) ≤ (50 : Int32) + v_shelves4_sort by rw [Int32.le_iff_toInt_le]; omega)]
        by_cases d : 0 ≤ x2.toInt ∧ x2.toInt < v_shelves4_size.toInt
        · rw [decide_eq_true d, if_neg (show ¬ (true = false) by decide), if_neg (show ¬ x2 < 0 by rw [Int32.lt_iff_toInt_lt]; omega), ck_t (i_inb hx.1 (by omega)), if_neg (show ¬ v_shelves4_size ≤ x2 by rw [Int32.le_iff_toInt_le]; omega)]
          exact ⟨_, rfl, rfl, fun _ => hx⟩
        · rw [decide_eq_false d, if_pos rfl]
          by_cases c : x2 < 0
          · rw [if_pos c]
            exact ⟨_, rfl, rfl, fun _ => hx⟩
          · rw [if_neg c, ck_t (i_inb hx.1 (by omega)), if_pos (show v_shelves4_size ≤ x2 by rw [Int32.lt_iff_toInt_lt] at c; rw [Int32.le_iff_toInt_le]; omega)]
            exact ⟨_, rfl, rfl, fun _ => hx⟩
    · rw [if_neg (show ¬ (5 : Int32) = 0 by decide), if_neg (show ¬ (5 : Int32) = 1 by decide), if_neg (show ¬ (5 : Int32) = 2 by decide), if_neg (show ¬ (5 : Int32) = 3 by decide), if_neg (show ¬ (5 : Int32) = 4 by decide), if_pos (rfl : (5 : Int32) = 5)]
      rcases c5 with ⟨h1, h2⟩ | ⟨h1, h2, h3, h4, h5⟩ | ⟨h1, h2, h3, h4, h5⟩
      · rw [h1, h2, if_pos rfl, if_neg (show ¬ 0 ≤ (-1 : Int32) by decide)]
        exact ⟨_, rfl, rfl, fun _ => hx⟩
      · rw [h1, h2, if_neg (show ¬ (1 : Int32) = 0 by decide), if_pos rfl, if_pos (by rw [Int32.le_iff_toInt_le]; omega), ck_t (i_inb hx.1 (by omega)), if_neg (by rw [Int32.le_iff_toInt_le]; omega)]
        exact ⟨_, rfl, rfl, fun _ => hx⟩
      · have e : ((50 : Int32) + v_shelves5_sort).toInt = 50 + v_shelves5_sort.toInt := by rw [i_addE rfl (by omega) (by omega), n50]
        rw [h1, h2, h5, if_neg (show ¬ (2 : Int32) = 0 by decide), if_neg (show ¬ (2 : Int32) = 1 by decide), hp1 a5 b5, bs_1, if_pos (show (0 : Int32) ≤ (50 : Int32) + v_shelves5_sort by rw [Int32.le_iff_toInt_le]; omega), ck_t (i_inb hx.1 (by omega)), if_pos (show (50 : Int32) ≤ (50 : Int32) + v_shelves5_sort by rw [Int32.le_iff_toInt_le]; omega)]
        by_cases d : 0 ≤ x2.toInt ∧ x2.toInt < v_shelves5_size.toInt
        · rw [decide_eq_true d, if_neg (show ¬ (true = false) by decide), if_neg (show ¬ x2 < 0 by rw [Int32.lt_iff_toInt_lt]; omega), ck_t (i_inb hx.1 (by omega)), if_neg (show ¬ v_shelves5_size ≤ x2 by rw [Int32.le_iff_toInt_le]; omega)]
          exact ⟨_, rfl, rfl, fun _ => hx⟩
        · rw [decide_eq_false d, if_pos rfl]
          by_cases c : x2 < 0
          · rw [if_pos c]
            exact ⟨_, rfl, rfl, fun _ => hx⟩
          · rw [if_neg c, ck_t (i_inb hx.1 (by omega)), if_pos (show v_shelves5_size ≤ x2 by rw [Int32.lt_iff_toInt_lt] at c; rw [Int32.le_iff_toInt_le]; omega)]
            exact ⟨_, rfl, rfl, fun _ => hx⟩
  · rw [decide_eq_false hx, if_pos rfl, if_pos rfl]
    exact ⟨_, rfl, rfl, fun h => absurd h (by decide)⟩
