/-! plans -/
theorem p69_0 {n : Nat} {x1 x2 x3 x4 s : Int32} {ls ws sh mn : List Int32} {m : List Int64} (hn : 0 < n) : fX9_plans_69 700 n x1 x2 x3 x4 (0 : Int32) s ls ws sh mn m = some (x4, s, ls, ws) := by
  cases n with
  | zero => exact absurd hn (by omega)
  | succ n => rw [uf_X9_plans_69, if_pos (rfl : (0 : Int32) = 0)]
theorem p110_0 {n : Nat} {x1 x2 x3 x4 s : Int32} {ls ws sh mn : List Int32} {m : List Int64} (hn : 0 < n) : fX9_plans_110 700 (fX9_plans_69 700 n) x1 x2 x3 x4 s ls ws sh mn m = some (x4, s, ls, ws) := by
  unfold fX9_plans_110 fX9_plans_111
  rw [nm_eq, if_pos (rfl : (0 : Int32) = 0)]
  unfold fX9_plans_171 fX9_plans_172
  rw [if_pos (rfl : (0 : Int32) = 0)]
  unfold fX9_plans_228
  exact p69_0 hn
theorem p171_0 {n : Nat} {x1 x2 x3 x4 x6 s : Int32} {ls ws sh mn : List Int32} {m : List Int64} (hn : 0 < n) : fX9_plans_171 700 (fX9_plans_69 700 n) x1 x2 x3 x4 x6 s ls ws sh mn m = some (x4, s, ls, ws) := by
  unfold fX9_plans_171 fX9_plans_172
  rw [if_pos (rfl : (0 : Int32) = 0)]
  unfold fX9_plans_228
  exact p69_0 hn
theorem it_lg {k : Nat} {it m : List Int64} {i z : Int32} (c : it1 k it m) (h0 : 0 ≤ i.toInt) (h1 : i.toInt < 60) (hz : z.toInt = 60 * (k : Int) + i.toInt) : mm_lg m z = mm_lg it i := by
  have q := c i.toInt.toNat (by omega)
  have e2 : z.toInt.toNat = 60 * k + i.toInt.toNat := by omega
  rw [← e2] at q
  exact q
theorem pl_loop {k : Nat} {x1 x2 x3 z : Int32} {sh mn : List Int32} {it m : List Int64} (hk : k < 6) (h1 : x1.toInt = (k : Int)) (h2 : 0 ≤ x2.toInt) (h3 : x3.toInt ≤ 12) (z0 : 0 ≤ z.toInt) (z1 : z.toInt ≤ 60) (hit : it.length = 60) (hm : m.length = 360) (hn : mn.length = 6) (hz : mm_ig mn x1 = z) (c : it1 k it m) : ∀ (n : Nat) (x4 s : Int32) (ls ws : List Int32), 0 ≤ x4.toInt → x4.toInt ≤ x3.toInt → 0 ≤ s.toInt → s.toInt ≤ 12 → ls.length = 12 → ws.length = 12 → (x3.toInt - x4.toInt).toNat + 1 < n → ∃ (r s' : Int32) (l w : List Int32), fX3_appendFrom_6 700 n x2 x3 x4 x4 s ls ws z it = some (r, s', l, w) ∧ fX9_plans_69 700 n x1 x2 x3 x4 (1 : Int32) s ls ws sh mn m = some (r, s', l, w) := by
  have tf : ¬ (true = false) := by decide
  have n1 : (1 : Int32).toInt = 1 := by decide
  have n2 : (2 : Int32).toInt = 2 := by decide
  have n12 : (12 : Int32).toInt = 12 := by decide
  have m0 : (0 : Int64).toInt = 0 := by decide
  have m1 : (1 : Int64).toInt = 1 := by decide
  have m7 : (7 : Int64).toInt = 7 := by decide
  intro n
  induction n with
  | zero =>
    intro x4 s ls ws g0 g1 g2 g3 g4 g5 hf
    exact absurd hf (by omega)
  | succ n ih =>
    intro x4 s ls ws g0 g1 g2 g3 g4 g5 hf
    rw [uf_X3_appendFrom_6, uf_X9_plans_69, if_neg (show ¬ (1 : Int32) = 0 by decide)]
    by_cases c3 : x3 ≤ x4
    · rw [if_pos c3, if_pos c3]
      exact ⟨_, _, _, _, rfl, rfl⟩
    · have d3 := i_nle c3
      rw [if_neg c3, if_neg c3, nm_eq, ck_t (i_inb (show 0 ≤ x1.toInt by omega) (by omega)), hz]
      generalize hy : x2.toInt64 + (2 : Int64) * x4.toInt64 = y
      have ey : y.toInt = x2.toInt + 2 * x4.toInt := by rw [← hy]; exact j_at h2 g0 (by omega)
      have lx := Int32.toInt_lt x2
      have ey1 := j_p1 (y := y) (by omega) (by omega)
      have es := i_64 z
      generalize hA : z - (2 : Int32) = A
      have eA := i_subE hA (by omega) (by omega)
      generalize hB : (2 : Int32) * x4 = B
      have eB := i_mulLE n2 hB (by omega) (by omega)
      generalize hC : A - B = C
      have eC := i_subE hC (by omega) (by omega)
      by_cases d : lg_cmp (y + (1 : Int64)) z.toInt64 < 0
      · have d' := (lg_neg _ _).mp d
        rw [if_pos d, if_neg (show ¬ C < x2 by rw [Int32.lt_iff_toInt_lt]; omega)]
        have e32 := j_32 (y := y) (by omega) (by omega)
        generalize hi : y.toInt32 = i
        rw [hi] at e32
        generalize hj : i + (1 : Int32) = j
        have ej := i_addE hj (by omega) (by omega)
        rw [ck_t (i_inb (show 0 ≤ i.toInt by omega) (by omega)), nm_eq, ck_t (i_inb (show 0 ≤ j.toInt by omega) (by omega)), nm_eq, pf_e, bs_1]
        by_cases full : (12 : Int32) ≤ s
        · have full' := i_le full
          rw [if_pos full, p110_0 (by omega), ap_f (by omega), bs_4, if_pos (rfl : false = false), ite_self]
          exact ⟨_, _, _, _, rfl, rfl⟩
        · have full' := i_nle full
          rw [if_neg full]
          unfold fX9_plans_111
          generalize hD : (60 : Int32) * x1 = D
          have eD := i_mulLE (c := 60) (by decide) hD (by omega) (by omega)
          generalize hE : D + x2 = E
          have eE := i_addE hE (by omega) (by omega)
          rw [hB]
          generalize hF : E + B = F
          have eF := i_addE hF (by omega) (by omega)
          rw [nm_eq, if_neg (show ¬ (1 : Int32) = 0 by decide), ck_t (i_inb (show 0 ≤ F.toInt by omega) (by omega)), it_lg c (i := i) (z := F) (by omega) (by omega) (by omega), wn_e, bs_1]
          generalize hG : F + (1 : Int32) = G
          have eG := i_addE hG (by omega) (by omega)
          generalize ha : mm_lg it i = a
          rw [m1, m7]
          by_cases c1 : 1 ≤ a.toInt ∧ a.toInt ≤ 7
          · rw [decide_eq_true c1, if_neg tf, ck_t (i_inb (show 0 ≤ G.toInt by omega) (by omega)), it_lg c (i := j) (z := G) (by omega) (by omega) (by omega), wn_e, bs_1]
            generalize hb : mm_lg it j = b
            rw [m0, m7]
            by_cases c2 : 0 ≤ b.toInt ∧ b.toInt ≤ 7
            · rw [decide_eq_true c2, if_neg tf, decide_eq_true (show (1 ≤ a.toInt ∧ a.toInt ≤ 7) ∧ (0 ≤ b.toInt ∧ b.toInt ≤ 7) from ⟨c1, c2⟩), if_neg tf, ap_t g2 (by omega) g4 g5, bs_4, if_neg tf, nm_eq, nm_eq]
              unfold fX9_plans_172
              rw [if_neg (show ¬ (1 : Int32) = 0 by decide), hG, ck_t (i_inb (show 0 ≤ F.toInt by omega) (by omega)), it_lg c (i := i) (z := F) (by omega) (by omega) (by omega), ha, nm_eq, ck_t (i_inb (show 0 ≤ s.toInt by omega) (by omega)), nm_eq, ck_t (i_inb (show 0 ≤ G.toInt by omega) (by omega)), it_lg c (i := j) (z := G) (by omega) (by omega) (by omega), hb, nm_eq, ck_t (i_inb (show 0 ≤ s.toInt by omega) (by omega)), nm_eq, nm_eq, nm_eq]
              unfold fX9_plans_228
              generalize hs' : s + (1 : Int32) = s'
              have es' := i_addE hs' (by omega) (by omega)
              generalize hx' : x4 + (1 : Int32) = x4'
              have ex' := i_addE hx' (by omega) (by omega)
              exact ih x4' s' _ _ (by omega) (by omega) (by omega) (by omega) (by rw [is_len]; exact g4) (by rw [is_len]; exact g5) (by omega)
            · rw [decide_eq_false c2, if_pos (rfl : false = false), p171_0 (by omega), decide_eq_false (show ¬ ((1 ≤ a.toInt ∧ a.toInt ≤ 7) ∧ (0 ≤ b.toInt ∧ b.toInt ≤ 7)) from fun h => c2 h.2), if_pos (rfl : false = false)]
              exact ⟨_, _, _, _, rfl, rfl⟩
          · rw [decide_eq_false c1, if_pos (rfl : false = false), p171_0 (by omega), decide_eq_false (show ¬ ((1 ≤ a.toInt ∧ a.toInt ≤ 7) ∧ (0 ≤ (mm_lg it j).toInt ∧ (mm_lg it j).toInt ≤ 7)) from fun h => c1 h.1), if_pos (rfl : false = false)]
            exact ⟨_, _, _, _, rfl, rfl⟩
      · have d' : ¬ (y + (1 : Int64)).toInt < z.toInt64.toInt := fun q => d ((lg_neg _ _).mpr q)
        rw [if_neg d, if_pos (show C < x2 by rw [Int32.lt_iff_toInt_lt]; omega), p110_0 (by omega)]
        exact ⟨_, _, _, _, rfl, rfl⟩
set_option maxHeartbeats 4000000 in
theorem rs_plans {x1 : Int32} {x2 : Int32} {x3 : Int32} {v_planned_size : Int32} {v_planned_lines : List Int32} {v_planned_ways : List Int32} {v_shelves0_holds : Int32} {v_shelves0_sort : Int32} {v_shelves0_size : Int32} {v_shelves0_items : List Int64} {v_shelves1_holds : Int32} {v_shelves1_sort : Int32} {v_shelves1_size : Int32} {v_shelves1_items : List Int64} {v_shelves2_holds : Int32} {v_shelves2_sort : Int32} {v_shelves2_size : Int32} {v_shelves2_items : List Int64} {v_shelves3_holds : Int32} {v_shelves3_sort : Int32} {v_shelves3_size : Int32} {v_shelves3_items : List Int64} {v_shelves4_holds : Int32} {v_shelves4_sort : Int32} {v_shelves4_size : Int32} {v_shelves4_items : List Int64} {v_shelves5_holds : Int32} {v_shelves5_sort : Int32} {v_shelves5_size : Int32} {v_shelves5_items : List Int64} {v_foldings_size : Int32} {v_shelves0_body : Int32} {v_shelves1_body : Int32} {v_shelves2_body : Int32} {v_shelves3_body : Int32} {v_shelves4_body : Int32} {v_shelves5_body : Int32} {m_planned : Int32} {m_planLine : List Int32} {m_planWay : List Int32} {m_shelf : List Int32} {m_many : List Int32} {m_items : List Int64} {m_carried : List Int64} (g8_0 : gi_pl v_planned_size v_planned_lines v_planned_ways) (g8_1 : gi_sf v_shelves0_size v_shelves0_items) (g8_2 : gi_sf v_shelves1_size v_shelves1_items) (g8_3 : gi_sf v_shelves2_size v_shelves2_items) (g8_4 : gi_sf v_shelves3_size v_shelves3_items) (g8_5 : gi_sf v_shelves4_size v_shelves4_items) (g8_6 : gi_sf v_shelves5_size v_shelves5_items) (g9_0 : gm_pl m_planned m_planLine m_planWay) (g9_1 : gm_sf m_shelf m_many m_items m_carried) (hr_0 : rl_sc v_foldings_size v_shelves0_holds v_shelves0_body v_shelves0_sort v_shelves0_size v_shelves1_holds v_shelves1_body v_shelves1_sort v_shelves1_size v_shelves2_holds v_shelves2_body v_shelves2_sort v_shelves2_size v_shelves3_holds v_shelves3_body v_shelves3_sort v_shelves3_size v_shelves4_holds v_shelves4_body v_shelves4_sort v_shelves4_size v_shelves5_holds v_shelves5_body v_shelves5_sort v_shelves5_size m_shelf m_many) (hr_1 : rl_it v_shelves0_items v_shelves1_items v_shelves2_items v_shelves3_items v_shelves4_items v_shelves5_items m_items) (hr_2 : rl_pl v_planned_size v_planned_lines v_planned_ways m_planned m_planLine m_planWay) : ∃ (r : Int32) (p_planned_size : Int32) (p_planned_lines : List Int32) (p_planned_ways : List Int32) (q_planned : Int32) (q_planLine : List Int32) (q_planWay : List Int32), fX8_plans 700 x1 x2 x3 v_planned_size v_planned_lines v_planned_ways v_shelves0_holds v_shelves0_sort v_shelves0_size v_shelves0_items v_shelves1_holds v_shelves1_sort v_shelves1_size v_shelves1_items v_shelves2_holds v_shelves2_sort v_shelves2_size v_shelves2_items v_shelves3_holds v_shelves3_sort v_shelves3_size v_shelves3_items v_shelves4_holds v_shelves4_sort v_shelves4_size v_shelves4_items v_shelves5_holds v_shelves5_sort v_shelves5_size v_shelves5_items = some (r, p_planned_size, p_planned_lines, p_planned_ways) ∧ fX9_plans 700 x1 x2 x3 m_planned m_planLine m_planWay m_shelf m_many m_items = some (r, q_planned, q_planLine, q_planWay) ∧ gi_pl p_planned_size p_planned_lines p_planned_ways ∧ gm_pl q_planned q_planLine q_planWay ∧ rl_sc v_foldings_size v_shelves0_holds v_shelves0_body v_shelves0_sort v_shelves0_size v_shelves1_holds v_shelves1_body v_shelves1_sort v_shelves1_size v_shelves2_holds v_shelves2_body v_shelves2_sort v_shelves2_size v_shelves3_holds v_shelves3_body v_shelves3_sort v_shelves3_size v_shelves4_holds v_shelves4_body v_shelves4_sort v_shelves4_size v_shelves5_holds v_shelves5_body v_shelves5_sort v_shelves5_size m_shelf m_many ∧ rl_it v_shelves0_items v_shelves1_items v_shelves2_items v_shelves3_items v_shelves4_items v_shelves5_items m_items ∧ rl_pl p_planned_size p_planned_lines p_planned_ways q_planned q_planLine q_planWay := by
  obtain ⟨rfl, rfl, rfl⟩ := id hr_2
  obtain ⟨o0, o1, o2, o3⟩ := id g8_0
  obtain ⟨a0, d0, l0⟩ := id g8_1
  obtain ⟨a1, d1, l1⟩ := id g8_2
  obtain ⟨a2, d2, l2⟩ := id g8_3
  obtain ⟨a3, d3, l3⟩ := id g8_4
  obtain ⟨a4, d4, l4⟩ := id g8_5
  obtain ⟨a5, d5, l5⟩ := id g8_6
  obtain ⟨b0, b1, b2, b3, b4⟩ := id g9_1
  obtain ⟨c0, c1, c2, c3, c4, c5⟩ := id hr_0
  obtain ⟨t0, t1, t2, t3, t4, t5⟩ := id hr_1
  have tf : ¬ (true = false) := by decide
  have n0 : (0 : Int32).toInt = 0 := by decide
  have n1 : (1 : Int32).toInt = 1 := by decide
  have n12 : (12 : Int32).toInt = 12 := by decide
  have n50 : (50 : Int32).toInt = 50 := by decide
  have m1 : (1 : Int64).toInt = 1 := by decide
  have m12 : (12 : Int64).toInt = 12 := by decide
  have e3 := i_64 x3
  have X : ∃ (r s : Int32) (l w : List Int32), fX8_plans 700 x1 x2 x3 m_planned m_planLine m_planWay v_shelves0_holds v_shelves0_sort v_shelves0_size v_shelves0_items v_shelves1_holds v_shelves1_sort v_shelves1_size v_shelves1_items v_shelves2_holds v_shelves2_sort v_shelves2_size v_shelves2_items v_shelves3_holds v_shelves3_sort v_shelves3_size v_shelves3_items v_shelves4_holds v_shelves4_sort v_shelves4_size v_shelves4_items v_shelves5_holds v_shelves5_sort v_shelves5_size v_shelves5_items = some (r, s, l, w) ∧ fX9_plans 700 x1 x2 x3 m_planned m_planLine m_planWay m_shelf m_many m_items = some (r, s, l, w) := by
    unfold fX8_plans fX9_plans
    rw [sh8_e, sh9_e, bs_1, bs_1, wn_e, e3, m1, m12, bs_1]
    by_cases hx : 0 ≤ x1.toInt ∧ x1.toInt ≤ 5
    · rw [decide_eq_true hx, if_neg tf, if_neg tf]
      by_cases h3 : 1 ≤ x3.toInt ∧ x3.toInt ≤ 12
      · rw [decide_eq_true h3, if_neg tf, if_neg (show ¬ x3 < (1 : Int32) by rw [Int32.lt_iff_toInt_lt]; omega), if_pos (show x3 ≤ (12 : Int32) by rw [Int32.le_iff_toInt_le]; omega), ck_t (i_inb hx.1 (by omega))]
        unfold fX9_plans_44 fX9_plans_66 fX9_plans_67
        rcases k6 hx.1 hx.2 with rfl | rfl | rfl | rfl | rfl | rfl
        · rw [if_pos (rfl : (0 : Int32) = 0)]
          rcases c0 with ⟨h1, h2⟩ | ⟨h1, h2, q3, q4, q5⟩ | ⟨h1, h2, q3, q4, q5⟩
          · rw [h1, h2, if_pos (rfl : (0 : Int32) = 0), if_pos (show (-1 : Int32) < 0 by decide), ck_t (i_inb hx.1 (by omega)), if_neg (show ¬ (-1 : Int32) = 50 by decide), p69_0 (by decide)]
            exact ⟨_, _, _, _, rfl, rfl⟩
          · rw [h1, h2, if_neg (show ¬ (1 : Int32) = 0 by decide), if_neg (show ¬ (1 : Int32) = 2 by decide), if_neg (show ¬ v_shelves0_body < 0 by rw [Int32.lt_iff_toInt_lt]; omega), ck_t (i_inb hx.1 (by omega)), if_neg (show ¬ v_shelves0_body = (50 : Int32) by intro q; rw [q] at q5; omega)]
            exact ⟨_, _, _, _, rfl, rfl⟩
          · have e : ((50 : Int32) + v_shelves0_sort).toInt = 50 + v_shelves0_sort.toInt := by rw [i_addE rfl (by omega) (by omega), n50]
            rw [h1, h2, if_neg (show ¬ (2 : Int32) = 0 by decide), if_pos (rfl : (2 : Int32) = 2), if_neg (show ¬ (50 : Int32) + v_shelves0_sort < 0 by rw [Int32.lt_iff_toInt_lt]; omega), ck_t (i_inb hx.1 (by omega))]
            by_cases hs : v_shelves0_sort = 0
            · rw [if_pos hs, hs, if_pos (show (50 : Int32) + 0 = 50 by decide), ck_t (i_inb hx.1 (by omega)), if_pos (show (50 : Int32) + 0 = 50 by decide)]
              by_cases h : x2 < 0
              · have h' := i_lt h
                rw [if_pos h, if_neg (show ¬ 0 ≤ x2 by rw [Int32.le_iff_toInt_le]; omega), p69_0 (by decide)]
                exact ⟨_, _, _, _, rfl, rfl⟩
              · have h' := i_nlt h
                obtain ⟨r, s', l, w, f8, f9⟩ := pl_loop (sh := m_shelf) (by decide) (show (0 : Int32).toInt = ((0 : Nat) : Int) by decide) (show 0 ≤ x2.toInt by omega) h3.2 a0 d0 l0 b2 b1 q5 t0 700 (0 : Int32) m_planned m_planLine m_planWay (by decide) (by omega) o0 o1 o2 o3 (by omega)
                rw [if_neg h, if_pos (show 0 ≤ x2 by rw [Int32.le_iff_toInt_le]; omega), f9]
                unfold fX3_appendFrom
                rw [f8, bs_4]
                exact ⟨_, _, _, _, rfl, rfl⟩
            · rw [if_neg hs, if_neg (show ¬ (50 : Int32) + v_shelves0_sort = 50 by intro q; rw [q, n50] at e; exact hs (Int32.toInt_inj.mp (by omega)))]
              exact ⟨_, _, _, _, rfl, rfl⟩
        · rw [if_neg (show ¬ (1 : Int32) = 0 by decide), if_pos (rfl : (1 : Int32) = 1)]
          rcases c1 with ⟨h1, h2⟩ | ⟨h1, h2, q3, q4, q5⟩ | ⟨h1, h2, q3, q4, q5⟩
          · rw [h1, h2, if_pos (rfl : (0 : Int32) = 0), if_pos (show (-1 : Int32) < 0 by decide), ck_t (i_inb hx.1 (by omega)), if_neg (show ¬ (-1 : Int32) = 50 by decide), p69_0 (by decide)]
            exact ⟨_, _, _, _, rfl, rfl⟩
          · rw [h1, h2, if_neg (show ¬ (1 : Int32) = 0 by decide), if_neg (show ¬ (1 : Int32) = 2 by decide), if_neg (show ¬ v_shelves1_body < 0 by rw [Int32.lt_iff_toInt_lt]; omega), ck_t (i_inb hx.1 (by omega)), if_neg (show ¬ v_shelves1_body = (50 : Int32) by intro q; rw [q] at q5; omega)]
            exact ⟨_, _, _, _, rfl, rfl⟩
          · have e : ((50 : Int32) + v_shelves1_sort).toInt = 50 + v_shelves1_sort.toInt := by rw [i_addE rfl (by omega) (by omega), n50]
            rw [h1, h2, if_neg (show ¬ (2 : Int32) = 0 by decide), if_pos (rfl : (2 : Int32) = 2), if_neg (show ¬ (50 : Int32) + v_shelves1_sort < 0 by rw [Int32.lt_iff_toInt_lt]; omega), ck_t (i_inb hx.1 (by omega))]
            by_cases hs : v_shelves1_sort = 0
            · rw [if_pos hs, hs, if_pos (show (50 : Int32) + 0 = 50 by decide), ck_t (i_inb hx.1 (by omega)), if_pos (show (50 : Int32) + 0 = 50 by decide)]
              by_cases h : x2 < 0
              · have h' := i_lt h
                rw [if_pos h, if_neg (show ¬ 0 ≤ x2 by rw [Int32.le_iff_toInt_le]; omega), p69_0 (by decide)]
                exact ⟨_, _, _, _, rfl, rfl⟩
              · have h' := i_nlt h
                obtain ⟨r, s', l, w, f8, f9⟩ := pl_loop (sh := m_shelf) (by decide) (show (1 : Int32).toInt = ((1 : Nat) : Int) by decide) (show 0 ≤ x2.toInt by omega) h3.2 a1 d1 l1 b2 b1 q5 t1 700 (0 : Int32) m_planned m_planLine m_planWay (by decide) (by omega) o0 o1 o2 o3 (by omega)
                rw [if_neg h, if_pos (show 0 ≤ x2 by rw [Int32.le_iff_toInt_le]; omega), f9]
                unfold fX3_appendFrom
                rw [f8, bs_4]
                exact ⟨_, _, _, _, rfl, rfl⟩
            · rw [if_neg hs, if_neg (show ¬ (50 : Int32) + v_shelves1_sort = 50 by intro q; rw [q, n50] at e; exact hs (Int32.toInt_inj.mp (by omega)))]
              exact ⟨_, _, _, _, rfl, rfl⟩
        · rw [if_neg (show ¬ (2 : Int32) = 0 by decide), if_neg (show ¬ (2 : Int32) = 1 by decide), if_pos (rfl : (2 : Int32) = 2)]
          rcases c2 with ⟨h1, h2⟩ | ⟨h1, h2, q3, q4, q5⟩ | ⟨h1, h2, q3, q4, q5⟩
          · rw [h1, h2, if_pos (rfl : (0 : Int32) = 0), if_pos (show (-1 : Int32) < 0 by decide), ck_t (i_inb hx.1 (by omega)), if_neg (show ¬ (-1 : Int32) = 50 by decide), p69_0 (by decide)]
            exact ⟨_, _, _, _, rfl, rfl⟩
          · rw [h1, h2, if_neg (show ¬ (1 : Int32) = 0 by decide), if_neg (show ¬ (1 : Int32) = 2 by decide), if_neg (show ¬ v_shelves2_body < 0 by rw [Int32.lt_iff_toInt_lt]; omega), ck_t (i_inb hx.1 (by omega)), if_neg (show ¬ v_shelves2_body = (50 : Int32) by intro q; rw [q] at q5; omega)]
            exact ⟨_, _, _, _, rfl, rfl⟩
          · have e : ((50 : Int32) + v_shelves2_sort).toInt = 50 + v_shelves2_sort.toInt := by rw [i_addE rfl (by omega) (by omega), n50]
            rw [h1, h2, if_neg (show ¬ (2 : Int32) = 0 by decide), if_pos (rfl : (2 : Int32) = 2), if_neg (show ¬ (50 : Int32) + v_shelves2_sort < 0 by rw [Int32.lt_iff_toInt_lt]; omega), ck_t (i_inb hx.1 (by omega))]
            by_cases hs : v_shelves2_sort = 0
            · rw [if_pos hs, hs, if_pos (show (50 : Int32) + 0 = 50 by decide), ck_t (i_inb hx.1 (by omega)), if_pos (show (50 : Int32) + 0 = 50 by decide)]
              by_cases h : x2 < 0
              · have h' := i_lt h
                rw [if_pos h, if_neg (show ¬ 0 ≤ x2 by rw [Int32.le_iff_toInt_le]; omega), p69_0 (by decide)]
                exact ⟨_, _, _, _, rfl, rfl⟩
              · have h' := i_nlt h
                obtain ⟨r, s', l, w, f8, f9⟩ := pl_loop (sh := m_shelf) (by decide) (show (2 : Int32).toInt = ((2 : Nat) : Int) by decide) (show 0 ≤ x2.toInt by omega) h3.2 a2 d2 l2 b2 b1 q5 t2 700 (0 : Int32) m_planned m_planLine m_planWay (by decide) (by omega) o0 o1 o2 o3 (by omega)
                rw [if_neg h, if_pos (show 0 ≤ x2 by rw [Int32.le_iff_toInt_le]; omega), f9]
                unfold fX3_appendFrom
                rw [f8, bs_4]
                exact ⟨_, _, _, _, rfl, rfl⟩
            · rw [if_neg hs, if_neg (show ¬ (50 : Int32) + v_shelves2_sort = 50 by intro q; rw [q, n50] at e; exact hs (Int32.toInt_inj.mp (by omega)))]
              exact ⟨_, _, _, _, rfl, rfl⟩
        · rw [if_neg (show ¬ (3 : Int32) = 0 by decide), if_neg (show ¬ (3 : Int32) = 1 by decide), if_neg (show ¬ (3 : Int32) = 2 by decide), if_pos (rfl : (3 : Int32) = 3)]
          rcases c3 with ⟨h1, h2⟩ | ⟨h1, h2, q3, q4, q5⟩ | ⟨h1, h2, q3, q4, q5⟩
          · rw [h1, h2, if_pos (rfl : (0 : Int32) = 0), if_pos (show (-1 : Int32) < 0 by decide), ck_t (i_inb hx.1 (by omega)), if_neg (show ¬ (-1 : Int32) = 50 by decide), p69_0 (by decide)]
            exact ⟨_, _, _, _, rfl, rfl⟩
          · rw [h1, h2, if_neg (show ¬ (1 : Int32) = 0 by decide), if_neg (show ¬ (1 : Int32) = 2 by decide), if_neg (show ¬ v_shelves3_body < 0 by rw [Int32.lt_iff_toInt_lt]; omega), ck_t (i_inb hx.1 (by omega)), if_neg (show ¬ v_shelves3_body = (50 : Int32) by intro q; rw [q] at q5; omega)]
            exact ⟨_, _, _, _, rfl, rfl⟩
          · have e : ((50 : Int32) + v_shelves3_sort).toInt = 50 + v_shelves3_sort.toInt := by rw [i_addE rfl (by omega) (by omega), n50]
            rw [h1, h2, if_neg (show ¬ (2 : Int32) = 0 by decide), if_pos (rfl : (2 : Int32) = 2), if_neg (show ¬ (50 : Int32) + v_shelves3_sort < 0 by rw [Int32.lt_iff_toInt_lt]; omega), ck_t (i_inb hx.1 (by omega))]
            by_cases hs : v_shelves3_sort = 0
            · rw [if_pos hs, hs, if_pos (show (50 : Int32) + 0 = 50 by decide), ck_t (i_inb hx.1 (by omega)), if_pos (show (50 : Int32) + 0 = 50 by decide)]
              by_cases h : x2 < 0
              · have h' := i_lt h
                rw [if_pos h, if_neg (show ¬ 0 ≤ x2 by rw [Int32.le_iff_toInt_le]; omega), p69_0 (by decide)]
                exact ⟨_, _, _, _, rfl, rfl⟩
              · have h' := i_nlt h
                obtain ⟨r, s', l, w, f8, f9⟩ := pl_loop (sh := m_shelf) (by decide) (show (3 : Int32).toInt = ((3 : Nat) : Int) by decide) (show 0 ≤ x2.toInt by omega) h3.2 a3 d3 l3 b2 b1 q5 t3 700 (0 : Int32) m_planned m_planLine m_planWay (by decide) (by omega) o0 o1 o2 o3 (by omega)
                rw [if_neg h, if_pos (show 0 ≤ x2 by rw [Int32.le_iff_toInt_le]; omega), f9]
                unfold fX3_appendFrom
                rw [f8, bs_4]
                exact ⟨_, _, _, _, rfl, rfl⟩
            · rw [if_neg hs, if_neg (show ¬ (50 : Int32) + v_shelves3_sort = 50 by intro q; rw [q, n50] at e; exact hs (Int32.toInt_inj.mp (by omega)))]
              exact ⟨_, _, _, _, rfl, rfl⟩
        · rw [if_neg (show ¬ (4 : Int32) = 0 by decide), if_neg (show ¬ (4 : Int32) = 1 by decide), if_neg (show ¬ (4 : Int32) = 2 by decide), if_neg (show ¬ (4 : Int32) = 3 by decide), if_pos (rfl : (4 : Int32) = 4)]
          rcases c4 with ⟨h1, h2⟩ | ⟨h1, h2, q3, q4, q5⟩ | ⟨h1, h2, q3, q4, q5⟩
          · rw [h1, h2, if_pos (rfl : (0 : Int32) = 0), if_pos (show (-1 : Int32) < 0 by decide), ck_t (i_inb hx.1 (by omega)), if_neg (show ¬ (-1 : Int32) = 50 by decide), p69_0 (by decide)]
            exact ⟨_, _, _, _, rfl, rfl⟩
          · rw [h1, h2, if_neg (show ¬ (1 : Int32) = 0 by decide), if_neg (show ¬ (1 : Int32) = 2 by decide), if_neg (show ¬ v_shelves4_body < 0 by rw [Int32.lt_iff_toInt_lt]; omega), ck_t (i_inb hx.1 (by omega)), if_neg (show ¬ v_shelves4_body = (50 : Int32) by intro q; rw [q] at q5; omega)]
            exact ⟨_, _, _, _, rfl, rfl⟩
          · have e : ((50 : Int32) + v_shelves4_sort).toInt = 50 + v_shelves4_sort.toInt := by rw [i_addE rfl (by omega) (by omega), n50]
            rw [h1, h2, if_neg (show ¬ (2 : Int32) = 0 by decide), if_pos (rfl : (2 : Int32) = 2), if_neg (show ¬ (50 : Int32) + v_shelves4_sort < 0 by rw [Int32.lt_iff_toInt_lt]; omega), ck_t (i_inb hx.1 (by omega))]
            by_cases hs : v_shelves4_sort = 0
            · rw [if_pos hs, hs, if_pos (show (50 : Int32) + 0 = 50 by decide), ck_t (i_inb hx.1 (by omega)), if_pos (show (50 : Int32) + 0 = 50 by decide)]
              by_cases h : x2 < 0
              · have h' := i_lt h
                rw [if_pos h, if_neg (show ¬ 0 ≤ x2 by rw [Int32.le_iff_toInt_le]; omega), p69_0 (by decide)]
                exact ⟨_, _, _, _, rfl, rfl⟩
              · have h' := i_nlt h
                obtain ⟨r, s', l, w, f8, f9⟩ := pl_loop (sh := m_shelf) (by decide) (show (4 : Int32).toInt = ((4 : Nat) : Int) by decide) (show 0 ≤ x2.toInt by omega) h3.2 a4 d4 l4 b2 b1 q5 t4 700 (0 : Int32) m_planned m_planLine m_planWay (by decide) (by omega) o0 o1 o2 o3 (by omega)
                rw [if_neg h, if_pos (show 0 ≤ x2 by rw [Int32.le_iff_toInt_le]; omega), f9]
                unfold fX3_appendFrom
                rw [f8, bs_4]
                exact ⟨_, _, _, _, rfl, rfl⟩
            · rw [if_neg hs, if_neg (show ¬ (50 : Int32) + v_shelves4_sort = 50 by intro q; rw [q, n50] at e; exact hs (Int32.toInt_inj.mp (by omega)))]
              exact ⟨_, _, _, _, rfl, rfl⟩
        · rw [if_neg (show ¬ (5 : Int32) = 0 by decide), if_neg (show ¬ (5 : Int32) = 1 by decide), if_neg (show ¬ (5 : Int32) = 2 by decide), if_neg (show ¬ (5 : Int32) = 3 by decide), if_neg (show ¬ (5 : Int32) = 4 by decide), if_pos (rfl : (5 : Int32) = 5)]
          rcases c5 with ⟨h1, h2⟩ | ⟨h1, h2, q3, q4, q5⟩ | ⟨h1, h2, q3, q4, q5⟩
          · rw [h1, h2, if_pos (rfl : (0 : Int32) = 0), if_pos (show (-1 : Int32) < 0 by decide), ck_t (i_inb hx.1 (by omega)), if_neg (show ¬ (-1 : Int32) = 50 by decide), p69_0 (by decide)]
            exact ⟨_, _, _, _, rfl, rfl⟩
          · rw [h1, h2, if_neg (show ¬ (1 : Int32) = 0 by decide), if_neg (show ¬ (1 : Int32) = 2 by decide), if_neg (show ¬ v_shelves5_body < 0 by rw [Int32.lt_iff_toInt_lt]; omega), ck_t (i_inb hx.1 (by omega)), if_neg (show ¬ v_shelves5_body = (50 : Int32) by intro q; rw [q] at q5; omega)]
            exact ⟨_, _, _, _, rfl, rfl⟩
          · have e : ((50 : Int32) + v_shelves5_sort).toInt = 50 + v_shelves5_sort.toInt := by rw [i_addE rfl (by omega) (by omega), n50]
            rw [h1, h2, if_neg (show ¬ (2 : Int32) = 0 by decide), if_pos (rfl : (2 : Int32) = 2), if_neg (show ¬ (50 : Int32) + v_shelves5_sort < 0 by rw [Int32.lt_iff_toInt_lt]; omega), ck_t (i_inb hx.1 (by omega))]
            by_cases hs : v_shelves5_sort = 0
            · rw [if_pos hs, hs, if_pos (show (50 : Int32) + 0 = 50 by decide), ck_t (i_inb hx.1 (by omega)), if_pos (show (50 : Int32) + 0 = 50 by decide)]
              by_cases h : x2 < 0
              · have h' := i_lt h
                rw [if_pos h, if_neg (show ¬ 0 ≤ x2 by rw [Int32.le_iff_toInt_le]; omega), p69_0 (by decide)]
                exact ⟨_, _, _, _, rfl, rfl⟩
              · have h' := i_nlt h
                obtain ⟨r, s', l, w, f8, f9⟩ := pl_loop (sh := m_shelf) (by decide) (show (5 : Int32).toInt = ((5 : Nat) : Int) by decide) (show 0 ≤ x2.toInt by omega) h3.2 a5 d5 l5 b2 b1 q5 t5 700 (0 : Int32) m_planned m_planLine m_planWay (by decide) (by omega) o0 o1 o2 o3 (by omega)
                rw [if_neg h, if_pos (show 0 ≤ x2 by rw [Int32.le_iff_toInt_le]; omega), f9]
                unfold fX3_appendFrom
                rw [f8, bs_4]
                exact ⟨_, _, _, _, rfl, rfl⟩
            · rw [if_neg hs, if_neg (show ¬ (50 : Int32) + v_shelves5_sort = 50 by intro q; rw [q, n50] at e; exact hs (Int32.toInt_inj.mp (by omega)))]
              exact ⟨_, _, _, _, rfl, rfl⟩
      · rw [decide_eq_false h3, if_pos (rfl : false = false)]
        by_cases c : x3 < (1 : Int32)
        · rw [if_pos c]
          exact ⟨_, _, _, _, rfl, rfl⟩
        · have c' := i_nlt c
          rw [if_neg c, if_neg (show ¬ x3 ≤ (12 : Int32) by rw [Int32.le_iff_toInt_le]; omega)]
          exact ⟨_, _, _, _, rfl, rfl⟩
    · rw [decide_eq_false hx, if_pos (rfl : false = false), if_pos (rfl : false = false)]
      exact ⟨_, _, _, _, rfl, rfl⟩
  obtain ⟨r, s, l, w, e8, e9⟩ := X
  have k8 := wp_get (st8_plans g8_0 g8_1 g8_2 g8_3 g8_4 g8_5 g8_6) e8
  have k9 := wp_get (st9_plans g9_0 g9_1) e9
  exact ⟨_, _, _, _, _, _, _, e8, e9, k8, k9, hr_0, hr_1, ⟨rfl, rfl, rfl⟩⟩
