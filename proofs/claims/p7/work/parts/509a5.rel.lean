/-! Geometry: turn and moves alike -/
theorem th_e {w y x high wide : Int32} {R C T1 PS1 : List Int32} {m : Nat} (hh : 1 ≤ high.toInt ∧ high.toInt ≤ 4) (hw : 1 ≤ wide.toInt ∧ wide.toInt ≤ 8) (rr : ∀ k : Nat, k < m → 0 ≤ (R.getD k 0).toInt ∧ (R.getD k 0).toInt < 4) (rc : ∀ k : Nat, k < m → 0 ≤ (C.getD k 0).toInt ∧ (C.getD k 0).toInt < 8) (t1 : ∀ j : Nat, j < 32 → T1.getD j 0 = kc_w (fun k => decide ((it_w (R.getD k 0) (C.getD k 0)).toInt.toNat = j)) 0 m) (t2 : ∀ j : Nat, j < 64 → PS1.getD j 0 = kc_w (fun k => decide ((iw_w (b9_w w) (R.getD k 0) (C.getD k 0)).toInt.toNat = j)) 0 m) (x0 : 0 ≤ x.toInt) (x1 : x.toInt < (if (4 : Int32) ≤ w then (8 : Int) else (4 : Int))) : th_w PS1 (if (4 : Int32) ≤ w then high else wide) y x = ta_w T1 high wide w y x := by
  have n0 : (0 : Int32).toInt = 0 := by decide
  have n1 : (1 : Int32).toInt = 1 := by decide
  obtain ⟨sp, hsp, s0, s1⟩ : ∃ sp : Int32, (if (4 : Int32) ≤ w then high else wide) = sp ∧ 1 ≤ sp.toInt ∧ sp.toInt ≤ (if (4 : Int32) ≤ w then (4 : Int) else (8 : Int)) := by
    by_cases h : (4 : Int32) ≤ w
    · rw [if_pos h, if_pos h]
      exact ⟨high, rfl, hh.1, hh.2⟩
    · rw [if_neg h, if_neg h]
      exact ⟨wide, rfl, hw.1, hw.2⟩
  have s2 : sp.toInt ≤ 8 := by
    by_cases h : (4 : Int32) ≤ w
    · rw [if_pos h] at s1
      omega
    · rw [if_neg h] at s1
      omega
  unfold th_w ta_w
  rw [hsp]
  generalize hz : sp - (1 : Int32) = z
  have ez := i_subE hz (by omega) (by omega)
  by_cases c1 : y < 0
  · have d1 := i_lt c1
    rw [if_pos c1, if_neg (by omega)]
  · have d1 := i_nlt c1
    rw [if_neg c1]
    by_cases c2 : y < sp
    · have d2 := i_lt c2
      rw [if_pos c2, if_pos (by omega)]
      exact (hq_e rr rc t1 t2 (by omega) (by omega) x0 x1).symm
    · have d2 := i_nlt c2
      rw [if_neg c2, if_neg (by omega)]
theorem st_e {x1 w high wide x7 : Int32} (hx : x7 = (if (4 : Int32) ≤ w then high else wide)) (hl : l9_w w = mm_b (csw w)) : s9_w x1 (l9_w w) x7 = s8_w x1 w high wide := by
  unfold s9_w s8_w
  rw [hl, ← hx]
  cases csw w with
  | false =>
    rw [if_pos (show mm_b false = 0 by decide), if_pos (rfl : false = false)]
    unfold mm_min
    by_cases c : ((2 : Int32) * x1) - x7 < (0 : Int32)
    · have d := i_lt c
      rw [if_pos c, if_neg (fun h => absurd (i_le h) (by omega))]
    · rw [if_neg c, if_pos (Int32.not_lt.mp c)]
  | true =>
    rw [if_neg (show ¬ mm_b true = 0 by decide), if_neg (show ¬ true = false by decide)]
theorem lf_e (x1 x7 : Int32) : lf_w x1 x7 = mm_max x1 (x7 - x1) := by
  unfold lf_w mm_max
  by_cases c : x1 < x7 - x1
  · rw [if_pos c, if_pos (Int32.le_of_lt c)]
  · rw [if_neg c]
    by_cases d : x1 ≤ x7 - x1
    · rw [if_pos d]
      exact Int32.le_antisymm (Int32.not_lt.mp c) d
    · rw [if_neg d]
theorem ig_p (l : List Int32) (i v : Int32) (h0 : 0 ≤ i.toInt) (h1 : i.toInt < l.length) : mm_ig (mm_is l i v) i = v := by
  rw [ge_ig, ge_is _ _ _ _ (by omega), if_pos rfl]
/-- the geometry of a level alike -/
def gx_w (m o : Nat) (R C B F row col bel fac : List Int32) : Prop := ∀ k : Nat, k < m → row.getD (o + k) 0 = R.getD k 0 ∧ col.getD (o + k) 0 = C.getD k 0 ∧ bel.getD (o + k) 0 = B.getD k 0 ∧ fac.getD (o + k) 0 = F.getD k 0
/-- rows of a level kept elsewhere -/
def fq_w (o n : Nat) (row col bel fac row' col' bel' fac' : List Int32) : Prop := ∀ j : Nat, j < 192 → (j < o ∨ o + n ≤ j) → row'.getD j 0 = row.getD j 0 ∧ col'.getD j 0 = col.getD j 0 ∧ bel'.getD j 0 = bel.getD j 0 ∧ fac'.getD j 0 = fac.getD j 0
theorem tr_e {lv ln w rows cols high wide h' w' : Int32} {R C B F T R' C' B' F' T' sR sC row col bel fac hi to PS sR' sC' row' col' bel' fac' hi' to' PS' : List Int32} {m : Nat} (hm : (rows * cols).toInt = m) (m32 : m ≤ 32) (L0 : 0 ≤ lv.toInt) (L5 : lv.toInt ≤ 5) (w0 : 0 ≤ w.toInt) (w7 : w.toInt ≤ 7) (l1 : R.length = 32) (l2 : C.length = 32) (l3 : B.length = 32) (l4 : F.length = 32) (l5 : T.length = 32) (k1 : row.length = 192) (k2 : col.length = 192) (k3 : bel.length = 192) (k4 : fac.length = 192) (k5 : hi.length = 32) (k6 : to.length = 32) (k7 : PS.length = 64) (k8 : sR.length = 6) (k9 : sC.length = 6) (hh : 1 ≤ high.toInt ∧ high.toInt ≤ 4) (hw : 1 ≤ wide.toInt ∧ wide.toInt ≤ 8) (rr : ∀ k : Nat, k < m → 0 ≤ (R.getD k 0).toInt ∧ (R.getD k 0).toInt < high.toInt) (rc : ∀ k : Nat, k < m → 0 ≤ (C.getD k 0).toInt ∧ (C.getD k 0).toInt < wide.toInt) (g1 : mm_ig sR lv = high) (g2 : mm_ig sC lv = wide) (g3 : gx_w m (32 * lv.toInt.toNat) R C B F row col bel fac) (e8 : fX5_turn 700 ln w rows cols high wide R C B F T = some (h', w', R', C', B', F', T')) (e9 : fX9_movesAll 700 lv ln w rows cols sR sC row col bel fac hi to PS = some (sR', sC', row', col', bel', fac', hi', to', PS')) : mm_ig sR' lv = h' ∧ mm_ig sC' lv = w' ∧ gx_w m (32 * lv.toInt.toNat) R' C' B' F' row' col' bel' fac' ∧ fq_w (32 * lv.toInt.toNat) m row col bel fac row' col' bel' fac' ∧ (∀ j : Nat, j < 6 → j ≠ lv.toInt.toNat → sR'.getD j 0 = sR.getD j 0 ∧ sC'.getD j 0 = sC.getD j 0) ∧ (row'.length = 192 ∧ col'.length = 192 ∧ bel'.length = 192 ∧ fac'.length = 192 ∧ hi'.length = 32 ∧ to'.length = 32 ∧ PS'.length = 64 ∧ sR'.length = 6 ∧ sC'.length = 6) := by
  obtain ⟨T1, c1, c2, ⟨c3, c4⟩, c5⟩ := tn_e hm m32 l1 l2 l3 l4 l5 e8
  obtain ⟨x7, PS1, hi1, to1, d1, d2, d3, ⟨d4, d5⟩, d6, d7, d8⟩ := mo_e hm m32 L0 L5 k1 k2 k3 k4 k5 k6 k7 e9
  obtain ⟨wy1, wy2⟩ := wy_e w0 w7
  have hx7 : x7 = (if (4 : Int32) ≤ w then high else wide) := by
    rw [d1]
    by_cases h : (4 : Int32) ≤ w
    · rw [b9_p h, if_pos rfl, if_pos h, g1]
    · rw [b9_n h, if_neg (by decide), if_neg h, g2]
  have t2 : ∀ j : Nat, j < 64 → PS1.getD j 0 = kc_w (fun k => decide ((iw_w (b9_w w) (R.getD k 0) (C.getD k 0)).toInt.toNat = j)) 0 m := by
    intro j hj
    rw [d3 j hj]
    refine kc_c m 0 (fun k k0 k1 => ?_)
    show decide ((iw_w (b9_w w) (row.getD (32 * lv.toInt.toNat + k) 0) (col.getD (32 * lv.toInt.toNat + k) 0)).toInt.toNat = j) = decide ((iw_w (b9_w w) (R.getD k 0) (C.getD k 0)).toInt.toNat = j)
    rw [(g3 k (by omega)).1, (g3 k (by omega)).2.1]
  have rr4 : ∀ k : Nat, k < m → 0 ≤ (R.getD k 0).toInt ∧ (R.getD k 0).toInt < 4 := fun k hk => ⟨(rr k hk).1, by have := (rr k hk).2; omega⟩
  have rc8 : ∀ k : Nat, k < m → 0 ≤ (C.getD k 0).toInt ∧ (C.getD k 0).toInt < 8 := fun k hk => ⟨(rc k hk).1, by have := (rc k hk).2; omega⟩
  have hs := st_e (x1 := ln) hx7 wy1
  have hsr : mm_ig sR' lv = h' := by
    rw [c3, d4]
    by_cases h : (4 : Int32) ≤ w
    · rw [b9_p h, if_pos rfl, if_pos h, ig_p _ _ _ L0 (by omega), lf_e, hx7, if_pos h]
    · rw [b9_n h, if_neg (by decide), if_neg h, g1]
  have hsc : mm_ig sC' lv = w' := by
    rw [c4, d5]
    by_cases h : (4 : Int32) ≤ w
    · rw [b9_p h, if_pos rfl, if_pos h, g2]
    · rw [b9_n h, if_neg (by decide), if_neg h, ig_p _ _ _ L0 (by omega), lf_e, hx7, if_neg h]
  have hle : sR'.length = 6 ∧ sC'.length = 6 := by
    rw [d4, d5]
    by_cases h : b9_w w = 0
    · rw [if_pos h, if_pos h, is_len]
      exact ⟨k8, k9⟩
    · rw [if_neg h, if_neg h, is_len]
      exact ⟨k8, k9⟩
  obtain ⟨v1, v2, v3, v4, v5, v6, v7⟩ := d8
  refine ⟨hsr, hsc, fun k hk => ?_, fun j hj hk => d6 j hj hk, fun j hj hn => ?_, ⟨v1, v2, v3, v4, v5, v6, v7, hle.1, hle.2⟩⟩
  clear v1 v2 v3 v4 v5 v6 v7
  · obtain ⟨q1, q2, q3, q4⟩ := g3 k hk
    obtain ⟨v1, v2, v3, v4⟩ := c5 k hk
    obtain ⟨⟨u1, u2, u3⟩, u4, u5⟩ := d7 k hk
    rw [q1, q2] at u1 u2 u3
    rw [q3] at u1
    rw [q4] at u2
    rw [q1] at u4
    rw [q2] at u5
    have a0 := rr k hk
    have b0 := rc k hk
    generalize R.getD k 0 = r at *
    generalize C.getD k 0 = c at *
    generalize B.getD k 0 = b at *
    generalize F.getD k 0 = f at *
    have hco : c9_w ln (pl_w (b9_w w) r c) (l9_w w) = cm_w ln (al_w w r c) (csw w) := by
      unfold c9_w cm_w
      rw [wy1, al_p]
    have xr : 0 ≤ (ac_w w r c).toInt ∧ (ac_w w r c).toInt < (if (4 : Int32) ≤ w then (8 : Int) else (4 : Int)) := by
      unfold ac_w
      by_cases h : (4 : Int32) ≤ w
      · rw [if_pos h, if_pos h]
        omega
      · rw [if_neg h, if_neg h]
        omega
    have hme : ∀ y : Int32, th_w PS1 x7 y (ac_w w r c) = ta_w T1 high wide w y (ac_w w r c) := by
      intro y
      rw [hx7]
      exact th_e hh hw rr4 rc8 c2 t2 xr.1 xr.2
    have how : PS1.getD (iw_w (b9_w w) r c).toInt.toNat 0 = ta_w T1 high wide w (al_w w r c) (ac_w w r c) := by
      rw [← hme]
      unfold th_w
      have n1 : (1 : Int32).toInt = 1 := by decide
      have ar : 0 ≤ (al_w w r c).toInt ∧ (al_w w r c).toInt ≤ (x7 - (1 : Int32)).toInt := by
        generalize hz : x7 - (1 : Int32) = z
        by_cases h : (4 : Int32) ≤ w
        · rw [if_pos h] at hx7
          have ez := i_subE hz (by rw [hx7]; omega) (by rw [hx7]; omega)
          unfold al_w
          rw [if_pos h]
          rw [hx7] at ez
          omega
        · rw [if_neg h] at hx7
          have ez := i_subE hz (by rw [hx7]; omega) (by rw [hx7]; omega)
          unfold al_w
          rw [if_neg h]
          rw [hx7] at ez
          omega
      rw [if_pos ar]
      unfold iw_w
      rw [al_p, ac_p]
    rw [hco, how, wy2, al_p, ac_p, hme] at u1
    rw [hco] at u2
    rw [hco, al_p, hs] at u3
    refine ⟨?_, ?_, ?_, ?_⟩
    · rw [u4, v3]
      by_cases h : (4 : Int32) ≤ w
      · rw [b9_p h, if_pos rfl, if_pos h, u3]
      · rw [b9_n h, if_neg (by decide), if_neg h]
    · rw [u5, v4]
      by_cases h : (4 : Int32) ≤ w
      · rw [b9_p h, if_pos rfl, if_pos h]
      · rw [b9_n h, if_neg (by decide), if_neg h, u3]
    · rw [u1, v1]
    · rw [u2, v2]
  · rw [d4, d5]
    by_cases h : b9_w w = 0
    · rw [if_pos h, if_pos h, ge_is _ _ _ _ (by omega), if_neg (by omega)]
      exact ⟨rfl, rfl⟩
    · rw [if_neg h, if_neg h, ge_is _ _ _ _ (by omega), if_neg (by omega)]
      exact ⟨rfl, rfl⟩
