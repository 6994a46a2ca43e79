/-! shift: one pair of shelves -/
theorem hp_g {x s z : Int32} (h0 : 0 ≤ z.toInt) (h1 : z.toInt ≤ 60) (hs : 0 ≤ s.toInt) : fX6_hasPart 700 x s z = some (decide (0 ≤ x.toInt ∧ x.toInt + s.toInt ≤ z.toInt)) := by
  have n0 : (0 : Int32).toInt = 0 := by decide
  have hx := Int32.toInt_lt x
  unfold fX6_hasPart
  by_cases c : x < 0
  · rw [if_pos c, decide_eq_false (by rw [Int32.lt_iff_toInt_lt] at c; omega)]
  · rw [if_neg c]
    rw [Int32.lt_iff_toInt_lt] at c
    by_cases d : z < x
    · rw [if_pos d, decide_eq_false (by rw [Int32.lt_iff_toInt_lt] at d; omega)]
    · rw [if_neg d]
      rw [Int32.lt_iff_toInt_lt] at d
      have e : (z - x).toInt = z.toInt - x.toInt := by rw [i_subE rfl (by omega) (by omega)]
      by_cases f : z - x < s
      · rw [if_pos f, decide_eq_false (by rw [Int32.lt_iff_toInt_lt, e] at f; omega)]
      · rw [if_neg f, decide_eq_true (by rw [Int32.lt_iff_toInt_lt, e] at f; omega)]
def sh_core {β : Type} (R : Int32 → β) (K : List Int64 → β) (x2 x4 x5 hi si zi hj sj zj : Int32) (li lj : List Int64) : Option β :=
    if hi = 0 then
    (some (R (-11 : Int32)))
    else (if hj = 0 then
    (some (R (-11 : Int32)))
    else (if hi = (2 : Int32) then
    (if hj = (2 : Int32) then
    (if si = sj then
    (if x5 < 0 then
    (some (R (-13 : Int32)))
    else (mm_bd1 (fX6_hasPart 700 x2 x5 zi) (fun (r : Bool) =>
    if r = false then
    (some (R (-13 : Int32)))
    else (mm_bd1 (fX6_hasPart 700 x4 x5 zj) (fun (r' : Bool) =>
    if r' = false then
    (some (R (-13 : Int32)))
    else (mm_ck (mm_cok x2 x4 x5 li.length lj.length) (mm_nm (mm_cp li lj x2 x4 x5) (fun (l : List Int64) =>
    some (K l)))))))))
    else (some (R (-12 : Int32))))
    else (some (R (-12 : Int32))))
    else (some (R (-12 : Int32)))))
theorem sh_fin {β : Type} (R : Int32 → β) (K : List Int64 → β) {x1 x2 x3 x4 x5 nb hi bi si zi hj bj sj zj : Int32} {li lj : List Int64} {shelf many : List Int32} {it car : List Int64} (hx : 0 ≤ x1.toInt ∧ x1.toInt ≤ 5) (hy : 0 ≤ x3.toInt ∧ x3.toInt ≤ 5) (hs : shelf.length = 6) (hm : many.length = 6) (hit : it.length = 360) (hc : car.length = 60) (ai : 0 ≤ zi.toInt) (ei : zi.toInt ≤ 60) (aj : 0 ≤ zj.toInt) (ej : zj.toInt ≤ 60) (hli : li.length = 60) (hlj : lj.length = 60) (ci : sc1 x1 nb hi bi si zi shelf many) (cj : sc1 x3 nb hj bj sj zj shelf many) :
    (∃ r : Int32, sh_core R K x2 x4 x5 hi si zi hj sj zj li lj = some (R r) ∧ fX9_shift 700 x1 x2 x3 x4 x5 shelf many it car = some (r, it, car)) ∨ (∃ w w' : List Int64, sh_core R K x2 x4 x5 hi si zi hj sj zj li lj = some (K (mm_cp li lj x2 x4 x5)) ∧ fX9_shift 700 x1 x2 x3 x4 x5 shelf many it car = some (x5, w, w') ∧ (∀ k : Nat, k < 360 → w.getD k 0 = if 60 * x3.toInt + x4.toInt ≤ (k : Int) ∧ (k : Int) < 60 * x3.toInt + x4.toInt + x5.toInt then it.getD ((k : Int) - 60 * x3.toInt - x4.toInt + 60 * x1.toInt + x2.toInt).toNat 0 else it.getD k 0) ∧ 0 ≤ x2.toInt ∧ x2.toInt + x5.toInt ≤ 60 ∧ 0 ≤ x4.toInt ∧ x4.toInt + x5.toInt ≤ 60 ∧ 0 ≤ x5.toInt) := by
  have n0 : (0 : Int32).toInt = 0 := by decide
  have n50 : (50 : Int32).toInt = 50 := by decide
  have tf : ¬ (true = false) := by decide
  have F9 := uf_X9_shift 700 x1 x2 x3 x4 x5 shelf many it car
  rw [sh9_e, bs_1, decide_eq_true hx, if_neg tf, sh9_e, bs_1, decide_eq_true hy, if_neg tf, ck_t (i_inb hx.1 (by omega))] at F9
  rcases ci with ⟨h1, h2⟩ | ⟨h1, h2, h3, h4, h5⟩ | ⟨h1, h2, h3, h4, h5⟩
  · left
    refine ⟨(-11 : Int32), ?_, ?_⟩
    · unfold sh_core
      rw [if_pos h1]
    · rw [F9, if_pos (show mm_ig shelf x1 < 0 by rw [h2]; decide)]
  · have p1 : ¬ mm_ig shelf x1 < 0 := by rw [h2, Int32.lt_iff_toInt_lt]; omega
    have p2 : mm_ig shelf x1 < (50 : Int32) := by rw [h2, Int32.lt_iff_toInt_lt]; omega
    have g1 : ¬ hi = 0 := by rw [h1]; decide
    have g2 : ¬ hi = (2 : Int32) := by rw [h1]; decide
    rw [if_neg p1, ck_t (i_inb hy.1 (by omega))] at F9
    rcases cj with ⟨k1, k2⟩ | ⟨k1, k2, k3, k4, k5⟩ | ⟨k1, k2, k3, k4, k5⟩
    · left
      refine ⟨(-11 : Int32), ?_, ?_⟩
      · unfold sh_core
        rw [if_neg g1, if_pos k1]
      · rw [F9, if_neg (show ¬ 0 ≤ mm_ig shelf x3 by rw [k2]; decide)]
    · left
      refine ⟨(-12 : Int32), ?_, ?_⟩
      · unfold sh_core
        rw [if_neg g1, if_neg (show ¬ hj = 0 by rw [k1]; decide), if_neg g2]
      · rw [F9, if_pos (show 0 ≤ mm_ig shelf x3 by rw [k2, Int32.le_iff_toInt_le]; omega), ck_t (i_inb hx.1 (by omega)), if_pos p2]
    · have e : ((50 : Int32) + sj).toInt = 50 + sj.toInt := by rw [i_addE rfl (by omega) (by omega), n50]
      left
      refine ⟨(-12 : Int32), ?_, ?_⟩
      · unfold sh_core
        rw [if_neg g1, if_neg (show ¬ hj = 0 by rw [k1]; decide), if_neg g2]
      · rw [F9, if_pos (show 0 ≤ mm_ig shelf x3 by rw [k2, Int32.le_iff_toInt_le]; omega), ck_t (i_inb hx.1 (by omega)), if_pos p2]
  · have e : ((50 : Int32) + si).toInt = 50 + si.toInt := by rw [i_addE rfl (by omega) (by omega), n50]
    have p1 : ¬ mm_ig shelf x1 < 0 := by rw [h2, Int32.lt_iff_toInt_lt]; omega
    have p2 : ¬ mm_ig shelf x1 < (50 : Int32) := by rw [h2, Int32.lt_iff_toInt_lt]; omega
    have g1 : ¬ hi = 0 := by rw [h1]; decide
    rw [if_neg p1, ck_t (i_inb hy.1 (by omega))] at F9
    rcases cj with ⟨k1, k2⟩ | ⟨k1, k2, k3, k4, k5⟩ | ⟨k1, k2, k3, k4, k5⟩
    · left
      refine ⟨(-11 : Int32), ?_, ?_⟩
      · unfold sh_core
        rw [if_neg g1, if_pos k1]
      · rw [F9, if_neg (show ¬ 0 ≤ mm_ig shelf x3 by rw [k2]; decide)]
    · left
      have ne : ¬ mm_ig shelf x1 = mm_ig shelf x3 := by
        intro q
        rw [h2, k2] at q
        rw [q] at e
        omega
      refine ⟨(-12 : Int32), ?_, ?_⟩
      · unfold sh_core
        rw [if_neg g1, if_neg (show ¬ hj = 0 by rw [k1]; decide), if_pos h1, if_neg (show ¬ hj = (2 : Int32) by rw [k1]; decide)]
      · rw [F9, if_pos (show 0 ≤ mm_ig shelf x3 by rw [k2, Int32.le_iff_toInt_le]; omega), ck_t (i_inb hx.1 (by omega)), if_neg p2, ck_t (i_inb hx.1 (by omega)), ck_t (i_inb hy.1 (by omega)), if_neg ne]
    · have e' : ((50 : Int32) + sj).toInt = 50 + sj.toInt := by rw [i_addE rfl (by omega) (by omega), n50]
      have g3 : ¬ hj = 0 := by rw [k1]; decide
      rw [if_pos (show 0 ≤ mm_ig shelf x3 by rw [k2, Int32.le_iff_toInt_le]; omega), ck_t (i_inb hx.1 (by omega)), if_neg p2, ck_t (i_inb hx.1 (by omega)), ck_t (i_inb hy.1 (by omega))] at F9
      by_cases q : si = sj
      · rw [if_pos (show mm_ig shelf x1 = mm_ig shelf x3 by rw [h2, k2, q])] at F9
        by_cases c5 : x5 < 0
        · left
          refine ⟨(-13 : Int32), ?_, ?_⟩
          · unfold sh_core
            rw [if_neg g1, if_neg g3, if_pos h1, if_pos k1, if_pos q, if_pos c5]
          · rw [F9, if_pos c5]
        · have d5 := i_nlt c5
          have z5 : 0 ≤ x5.toInt := by omega
          have l5 := Int32.toInt_lt x5
          rw [if_neg c5] at F9
          have s1 : (zi - x5).toInt = zi.toInt - x5.toInt := by rw [i_subE rfl (by omega) (by omega)]
          have s3 : (zj - x5).toInt = zj.toInt - x5.toInt := by rw [i_subE rfl (by omega) (by omega)]
          by_cases d1 : 0 ≤ x2.toInt ∧ x2.toInt + x5.toInt ≤ zi.toInt
          · rw [if_neg (show ¬ x2 < 0 by rw [Int32.lt_iff_toInt_lt]; omega)] at F9
            by_cases d2 : 0 ≤ x4.toInt ∧ x4.toInt + x5.toInt ≤ zj.toInt
            · right
              rw [if_neg (show ¬ x4 < 0 by rw [Int32.lt_iff_toInt_lt]; omega), ck_t (i_inb hx.1 (by omega)), if_neg (show ¬ mm_ig many x1 - x5 < x2 by rw [h5, Int32.lt_iff_toInt_lt, s1]; omega), ck_t (i_inb hy.1 (by omega)), if_pos (show x4 ≤ mm_ig many x3 - x5 by rw [k5, Int32.le_iff_toInt_le, s3]; omega)] at F9
              have hck : mm_cok x2 x4 x5 li.length lj.length = true := by
                unfold mm_cok
                rw [Bool.and_eq_true, Bool.and_eq_true, Bool.and_eq_true, Bool.and_eq_true]
                exact ⟨decide_eq_true (by rw [Int32.le_iff_toInt_le]; omega), decide_eq_true (by rw [Int32.le_iff_toInt_le]; omega), decide_eq_true (by rw [Int32.le_iff_toInt_le]; omega), decide_eq_true (show x2.toInt.toNat + x5.toInt.toNat ≤ li.length by omega), decide_eq_true (show x4.toInt.toNat + x5.toInt.toNat ≤ lj.length by omega)⟩
              obtain ⟨⟨r, w, w'⟩, ew, qw⟩ := sg_113 (sf := shelf) (mn := many) hit hx.1 hx.2 d1.1 (by omega) hy.1 hy.2 d2.1 z5 (by omega) 700 (0 : Int32) car hc (by omega) (by omega) (by omega) (fun j hj => absurd hj (by omega))
              obtain ⟨q1, q2, q3⟩ := qw
              refine ⟨w, w', ?_, ?_, q3, d1.1, by omega, d2.1, by omega, z5⟩
              · unfold sh_core
                rw [if_neg g1, if_neg g3, if_pos h1, if_pos k1, if_pos q, if_neg c5, hp_g ai ei z5, bs_1, decide_eq_true d1, if_neg tf, hp_g aj ej z5, bs_1, decide_eq_true d2, if_neg tf, ck_t hck, nm_eq]
              · have q1' : r = x5 := q1
                rw [F9, ew, q1']
            · left
              refine ⟨(-13 : Int32), ?_, ?_⟩
              · unfold sh_core
                rw [if_neg g1, if_neg g3, if_pos h1, if_pos k1, if_pos q, if_neg c5, hp_g ai ei z5, bs_1, decide_eq_true d1, if_neg tf, hp_g aj ej z5, bs_1, decide_eq_false d2, if_pos rfl]
              · rw [F9]
                by_cases c4 : x4 < 0
                · rw [if_pos c4]
                · have c4' := i_nlt c4
                  rw [if_neg c4, ck_t (i_inb hx.1 (by omega)), if_neg (show ¬ mm_ig many x1 - x5 < x2 by rw [h5, Int32.lt_iff_toInt_lt, s1]; omega), ck_t (i_inb hy.1 (by omega)), if_neg (show ¬ x4 ≤ mm_ig many x3 - x5 by rw [k5, Int32.le_iff_toInt_le, s3]; omega)]
          · left
            refine ⟨(-13 : Int32), ?_, ?_⟩
            · unfold sh_core
              rw [if_neg g1, if_neg g3, if_pos h1, if_pos k1, if_pos q, if_neg c5, hp_g ai ei z5, bs_1, decide_eq_false d1, if_pos rfl]
            · rw [F9]
              by_cases c2 : x2 < 0
              · rw [if_pos c2]
              · have c2' := i_nlt c2
                rw [if_neg c2]
                by_cases c4 : x4 < 0
                · rw [if_pos c4]
                · rw [if_neg c4, ck_t (i_inb hx.1 (by omega)), if_pos (show mm_ig many x1 - x5 < x2 by rw [h5, Int32.lt_iff_toInt_lt, s1]; omega)]
      · left
        refine ⟨(-12 : Int32), ?_, ?_⟩
        · unfold sh_core
          rw [if_neg g1, if_neg g3, if_pos h1, if_pos k1, if_neg q]
        · rw [F9, if_neg (show ¬ mm_ig shelf x1 = mm_ig shelf x3 by intro u; rw [h2, k2] at u; rw [u] at e; apply q; apply Int32.toInt_inj.mp; omega)]
theorem it_cp {i j : Nat} {x1 x2 x3 x4 x5 : Int32} {li lj it w : List Int64} (h1 : x1.toInt = (i : Int)) (h3 : x3.toInt = (j : Int)) (hi : i < 6) (hj : j < 6) (hli : li.length = 60) (hlj : lj.length = 60) (hw : ∀ k : Nat, k < 360 → w.getD k 0 = if 60 * x3.toInt + x4.toInt ≤ (k : Int) ∧ (k : Int) < 60 * x3.toInt + x4.toInt + x5.toInt then it.getD ((k : Int) - 60 * x3.toInt - x4.toInt + 60 * x1.toInt + x2.toInt).toNat 0 else it.getD k 0) (a2 : 0 ≤ x2.toInt) (b2 : x2.toInt + x5.toInt ≤ 60) (a4 : 0 ≤ x4.toInt) (b4 : x4.toInt + x5.toInt ≤ 60) (a5 : 0 ≤ x5.toInt) (ci : it1 i li it) (cj : it1 j lj it) : it1 j (mm_cp li lj x2 x4 x5) w := by
  intro k hk
  have e := congrFun (mm_cpd (xs := li) (ys := lj) (sp := x2) (dp := x4) (n := x5) (z := (0 : Int64)) (show x2.toInt.toNat + x5.toInt.toNat ≤ li.length by omega) (show x4.toInt.toNat + x5.toInt.toNat ≤ lj.length by omega)) k
  have e' : (mm_cp li lj x2 x4 x5).getD k 0 = if x4.toInt.toNat ≤ k ∧ k < x4.toInt.toNat + x5.toInt.toNat then li.getD (x2.toInt.toNat + (k - x4.toInt.toNat)) 0 else lj.getD k 0 := e
  rw [e', hw (60 * j + k) (by omega)]
  by_cases c : x4.toInt.toNat ≤ k ∧ k < x4.toInt.toNat + x5.toInt.toNat
  · have u : ((((60 * j + k : Nat) : Int)) - 60 * x3.toInt - x4.toInt + 60 * x1.toInt + x2.toInt).toNat = 60 * i + (x2.toInt.toNat + (k - x4.toInt.toNat)) := by omega
    rw [if_pos c, if_pos (by omega), u]
    exact ci _ (by omega)
  · rw [if_neg c, if_neg (by omega)]
    exact cj k hk
theorem it_ne {j l : Nat} {x1 x2 x3 x4 x5 : Int32} {ll it w : List Int64} (h3 : x3.toInt = (j : Int)) (hl : l < 6) (hj : j < 6) (ne : ¬ l = j) (hw : ∀ k : Nat, k < 360 → w.getD k 0 = if 60 * x3.toInt + x4.toInt ≤ (k : Int) ∧ (k : Int) < 60 * x3.toInt + x4.toInt + x5.toInt then it.getD ((k : Int) - 60 * x3.toInt - x4.toInt + 60 * x1.toInt + x2.toInt).toNat 0 else it.getD k 0) (a4 : 0 ≤ x4.toInt) (b4 : x4.toInt + x5.toInt ≤ 60) (c : it1 l ll it) : it1 l ll w := by
  intro k hk
  rw [hw (60 * l + k) (by omega), if_neg (by omega)]
  exact c k hk
