/-! Geometry: fold -/
theorem ba_12 {x1 x2 x5 rows cols hg wd folds : Int32} {R C B F bend T : List Int32} {sc : Int32} {stp : List Int32} {r h' w' fo' wr' mo' : Int32} {R' C' B' F' wo' la' be' T' : List Int32} {sk' : Int32} {st' : List Int32} : ∀ (n : Nat) (x6 wrong more : Int32) (worn last : List Int32) (sk : Int32) (st : List Int32), fX5_bendAndTurn_12 700 n x1 x2 x5 x6 rows cols hg wd folds wrong more R C B F worn last bend T sc sk stp st = some (r, h', w', fo', wr', mo', R', C', B', F', wo', la', be', T', sk', st') → r = x5 ∧ fo' = folds + (1 : Int32) ∧ fX5_turn 700 x1 x2 rows cols hg wd R C B F T = some (h', w', R', C', B', F', T') := by
  intro n
  induction n with
  | zero =>
    intro x6 wrong more worn last sk st e
    exact absurd e (by intro h; cases h)
  | succ n ih =>
    intro x6 wrong more worn last sk st e
    rw [uf_X5_bendAndTurn_12] at e
    obtain ⟨fl, ef, e⟩ := mm_bd1s e
    by_cases c : ((2 : Int32) * fl) ≤ x6
    · rw [if_pos c] at e
      obtain ⟨w7, w8, w9, w10, w11, w12, w13, et, e⟩ := mm_bd7s e
      rw [nm_eq] at e
      apply mm_sub16 e
      exact ⟨rfl, rfl, et⟩
    · rw [if_neg c] at e
      have e := ck_x e
      by_cases g : mm_ig bend x6 = 0
      · rw [if_pos g, uf_X5_bendAndTurn_43, nm_eq] at e
        exact ih _ _ _ _ _ _ _ e
      · rw [if_neg g] at e
        obtain ⟨w18, w19, w20, w21, w22, w23, ew, e⟩ := mm_bd6s e
        rw [uf_X5_bendAndTurn_43, nm_eq] at e
        exact ih _ _ _ _ _ _ _ e
def ok_w (x1 x2 high wide : Int32) : Prop := (0 ≤ x2.toInt ∧ x2.toInt ≤ 7) ∧ 1 ≤ x1.toInt ∧ x1.toInt < (if (4 : Int32) ≤ x2 then high else wide).toInt
theorem wa_e (x : Int32) : fX8_isWay 700 x = some (decide (0 ≤ x.toInt ∧ x.toInt ≤ 7)) := by
  have n0 : (0 : Int32).toInt = 0 := by decide
  have n8 : (8 : Int32).toInt = 8 := by decide
  unfold fX8_isWay
  by_cases c : x < 0
  · have d := i_lt c
    rw [if_pos c, decide_eq_false (by omega)]
  · have d := i_nlt c
    rw [if_neg c]
    by_cases c2 : (8 : Int32) ≤ x
    · have d2 := i_le c2
      rw [if_pos c2, decide_eq_false (by omega)]
    · have d2 := i_nle c2
      rw [if_neg c2, decide_eq_true (by omega)]
theorem hl_e (x1 x2 high wide : Int32) : fX5_hasLine 700 x1 x2 high wide = some (decide (1 ≤ x1.toInt ∧ x1.toInt < (if (4 : Int32) ≤ x2 then high else wide).toInt)) := by
  have n1 : (1 : Int32).toInt = 1 := by decide
  have hs : fX5_span 700 x2 high wide = some (if (4 : Int32) ≤ x2 then high else wide) := by
    unfold fX5_span
    by_cases c : (4 : Int32) ≤ x2
    · rw [if_pos c, if_pos c]
    · rw [if_neg c, if_neg c]
  unfold fX5_hasLine
  rw [hs]
  generalize (if (4 : Int32) ≤ x2 then high else wide) = s
  by_cases c : x1 < (1 : Int32)
  · have d := i_lt c
    rw [if_pos c, decide_eq_false (by omega)]
  · have d := i_nlt c
    rw [if_neg c, bs_1]
    by_cases c2 : s ≤ x1
    · have d2 := i_le c2
      rw [if_pos c2, decide_eq_false (by omega)]
    · have d2 := i_nle c2
      rw [if_neg c2, decide_eq_true (by omega)]
theorem il_e {lv x1 x2 high wide : Int32} {sR sC : List Int32} (k8 : sR.length = 6) (k9 : sC.length = 6) (L0 : 0 ≤ lv.toInt) (L5 : lv.toInt ≤ 5) (g1 : mm_ig sR lv = high) (g2 : mm_ig sC lv = wide) (hh : 1 ≤ high.toInt ∧ high.toInt ≤ 4) (hw : 1 ≤ wide.toInt ∧ wide.toInt ≤ 8) : fX9_isLine 700 lv x1 x2 sR sC = some (decide (1 ≤ x1.toInt ∧ x1.toInt < (if (4 : Int32) ≤ x2 then high else wide).toInt)) := by
  have n1 : (1 : Int32).toInt = 1 := by decide
  have m1 : (1 : Int64).toInt = 1 := by decide
  unfold fX9_isLine
  by_cases c : (4 : Int32) ≤ x2
  · rw [if_pos c, if_pos c, ck_t (i_inb L0 (by omega)), g1]
    unfold fX9_isLine_23
    generalize hz : high - (1 : Int32) = z
    have ez := i_subE hz (by omega) (by omega)
    rw [wn_x, bs_1, i_64, i_64, m1]
    exact congrArg some (decide_eq_decide.mpr (by omega))
  · rw [if_neg c, if_neg c, ck_t (i_inb L0 (by omega)), g2]
    unfold fX9_isLine_23
    generalize hz : wide - (1 : Int32) = z
    have ez := i_subE hz (by omega) (by omega)
    rw [wn_x, bs_1, i_64, i_64, m1]
    exact congrArg some (decide_eq_decide.mpr (by omega))
theorem fo_8 {x1 x2 rows cols hg wd folds wrong more : Int32} {R C B F worn last bend T : List Int32} {sc sk : Int32} {stp st : List Int32} {lim : Int32} {r h' w' fo' wr' mo' : Int32} {R' C' B' F' wo' la' be' T' : List Int32} {sk' : Int32} {st' : List Int32} (e : fX8_fold 700 x1 x2 rows cols hg wd folds wrong more R C B F worn last bend T sc sk stp st lim = some (r, h', w', fo', wr', mo', R', C', B', F', wo', la', be', T', sk', st')) : (¬ ok_w x1 x2 hg wd ∧ h' = hg ∧ w' = wd ∧ fo' = folds ∧ R' = R ∧ C' = C ∧ B' = B ∧ F' = F) ∨ (ok_w x1 x2 hg wd ∧ fo' = folds + (1 : Int32) ∧ fX5_turn 700 x1 x2 rows cols hg wd R C B F T = some (h', w', R', C', B', F', T')) := by
  unfold fX8_fold at e
  rw [wa_e, bs_1] at e
  by_cases c : 0 ≤ x2.toInt ∧ x2.toInt ≤ 7
  · rw [decide_eq_true c, if_neg (by decide), hl_e, bs_1] at e
    by_cases d : 1 ≤ x1.toInt ∧ x1.toInt < (if (4 : Int32) ≤ x2 then hg else wd).toInt
    · rw [decide_eq_true d, if_neg (by decide)] at e
      obtain ⟨a0, a1, a2, a3, a4, a5, a6, a7, a8, a9, a10, a11, a12, a13, a14, a15, eb, e⟩ := mm_bd16s e
      apply mm_sub16 e
      unfold fX5_bendAndTurn at eb
      obtain ⟨b0, b1, em, eb⟩ := mm_bd2s eb
      obtain ⟨q1, q2, q3⟩ := ba_12 700 _ _ _ _ _ _ _ eb
      exact Or.inr ⟨⟨c, d⟩, q2, q3⟩
    · rw [decide_eq_false d, if_pos rfl] at e
      apply mm_sub16 e
      exact Or.inl ⟨fun h => d h.2, rfl, rfl, rfl, rfl, rfl, rfl, rfl⟩
  · rw [decide_eq_false c, if_pos rfl] at e
    apply mm_sub16 e
    exact Or.inl ⟨fun h => c h.1, rfl, rfl, rfl, rfl, rfl, rfl, rfl⟩
theorem fs_9 {lv x1 x2 ro co tm ba at_ en fa op bm bw mw : Int32} {lim sR sC row col bel fac wo la tape text nam ben hi to PS : List Int32} {ba' at' en' fa' op' bm' bw' mw' : Int32} {sR' sC' row' col' bel' fac' wo' la' nam' ben' hi' to' PS' : List Int32} (e : fX9_foldsOn 700 lv x1 x2 ro co tm ba at_ en fa op bm bw mw lim sR sC row col bel fac wo la tape text nam ben hi to PS = some (ba', at', en', fa', op', bm', bw', mw', sR', sC', row', col', bel', fac', wo', la', nam', ben', hi', to', PS')) : fX9_movesAll 700 lv x1 x2 ro co sR sC row col bel fac hi to PS = some (sR', sC', row', col', bel', fac', hi', to', PS') ∧ fX9_bendsAll 700 lv x1 x2 ro co tm ba at_ en fa op bm bw mw lim row col fac wo la tape text nam ben = some (ba', at', en', fa', op', bm', bw', mw', wo', la', nam', ben') := by
  unfold fX9_foldsOn at e
  obtain ⟨a0, a1, a2, a3, a4, a5, a6, a7, a8, a9, a10, a11, eb, e⟩ := mm_bd12s e
  obtain ⟨b0, b1, b2, b3, b4, b5, b6, b7, b8, em, e⟩ := mm_bd9s e
  apply mm_sub21 e
  exact ⟨em, eb⟩
theorem fo_9 {x1 x2 ro co fd wr tm ba at_ en fa op bm bw mw hg wd : Int32} {lim sR sC row col bel fac wo la tape text nam ben hi to PS : List Int32} {r fd' wr' ba' at' en' fa' op' bm' bw' mw' : Int32} {sR' sC' row' col' bel' fac' wo' la' nam' ben' hi' to' PS' : List Int32} (k8 : sR.length = 6) (k9 : sC.length = 6) (g1 : mm_ig sR (0 : Int32) = hg) (g2 : mm_ig sC (0 : Int32) = wd) (hh : 1 ≤ hg.toInt ∧ hg.toInt ≤ 4) (hw : 1 ≤ wd.toInt ∧ wd.toInt ≤ 8) (e : fX9_fold 700 x1 x2 ro co fd wr tm ba at_ en fa op bm bw mw lim sR sC row col bel fac wo la tape text nam ben hi to PS = some (r, fd', wr', ba', at', en', fa', op', bm', bw', mw', sR', sC', row', col', bel', fac', wo', la', nam', ben', hi', to', PS')) : (¬ ok_w x1 x2 hg wd ∧ fd' = fd ∧ sR' = sR ∧ sC' = sC ∧ row' = row ∧ col' = col ∧ bel' = bel ∧ fac' = fac) ∨ (ok_w x1 x2 hg wd ∧ fd' = fd + (1 : Int32) ∧ fX9_movesAll 700 (0 : Int32) x1 x2 ro co sR sC row col bel fac hi to PS = some (sR', sC', row', col', bel', fac', hi', to', PS')) := by
  have m0 : (0 : Int64).toInt = 0 := by decide
  have m7 : (7 : Int64).toInt = 7 := by decide
  unfold fX9_fold at e
  rw [wn_x, bs_1, i_64, m0, m7] at e
  by_cases c : 0 ≤ x2.toInt ∧ x2.toInt ≤ 7
  · rw [decide_eq_true c, if_neg (by decide), il_e k8 k9 (by decide) (by decide) g1 g2 hh hw, bs_1] at e
    by_cases d : 1 ≤ x1.toInt ∧ x1.toInt < (if (4 : Int32) ≤ x2 then hg else wd).toInt
    · rw [decide_eq_true d, if_neg (by decide)] at e
      obtain ⟨a0, a1, a2, a3, a4, a5, a6, a7, a8, a9, a10, a11, a12, a13, a14, a15, a16, a17, a18, a19, a20, eb, e⟩ := mm_bd21s e
      rw [nm_eq, nm_eq] at e
      apply mm_sub24 e
      exact Or.inr ⟨⟨c, d⟩, rfl, (fs_9 eb).1⟩
    · rw [decide_eq_false d, if_pos rfl] at e
      apply mm_sub24 e
      exact Or.inl ⟨fun h => d h.2, rfl, rfl, rfl, rfl, rfl, rfl, rfl⟩
  · rw [decide_eq_false c, if_pos rfl] at e
    apply mm_sub24 e
    exact Or.inl ⟨fun h => c h.1, rfl, rfl, rfl, rfl, rfl, rfl, rfl⟩
