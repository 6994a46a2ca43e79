/-! Geometry: sheet -/
theorem dn_x {x : Int32} (hx : x.toInt < 0) : (x / (10 : Int32)).toInt ≤ 0 := by
  rw [Int32.toInt_div_of_ne_right x (10 : Int32) (by decide), show (10 : Int32).toInt = 10 by decide]
  have e : x.toInt = -(-x.toInt) := by omega
  rw [e, Int.neg_tdiv]
  have k : 0 ≤ (-x.toInt).tdiv 10 := Int.tdiv_nonneg (by omega) (by omega)
  omega
def os_w (a b : Int32) : Prop := (1 ≤ a.toInt ∧ a.toInt ≤ 4) ∧ (1 ≤ b.toInt ∧ b.toInt ≤ 8)
/-- creases all new -/
def zc_w (o : Nat) (W A : List Int32) : Prop := ∀ k : Nat, k < 64 → W.getD (o + k) 0 = 0 ∧ A.getD (o + k) 0 = 0
theorem rw_8 {x1 x2 rows cols hg wd folds wrong more rows' cols' h' w' fo' wr' mo' : Int32} {R C B F W A R' C' B' F' W' A' : List Int32} {m : Nat} (hm : x1.toInt * x2.toInt = m) (m32 : m ≤ 32) (o : os_w x1 x2) (l1 : R.length = 32) (l2 : C.length = 32) (l3 : B.length = 32) (l4 : F.length = 32) (l5 : W.length = 64) (l6 : A.length = 64) (e : fX5_renew 700 x1 x2 rows cols hg wd folds wrong more R C B F W A = some (rows', cols', h', w', fo', wr', mo', R', C', B', F', W', A')) : rows' = x1 ∧ cols' = x2 ∧ h' = x1 ∧ w' = x2 ∧ fo' = 0 ∧ wr' = 0 ∧ mo' = 0 ∧ fl_w m x2.toInt 0 R' C' B' F' ∧ zc_w 0 W' A' := by
  unfold fX5_renew at e
  obtain ⟨w1, e1, e⟩ := mm_bd1s e
  obtain ⟨w3, e3, e⟩ := mm_bd1s e
  obtain ⟨w5, w6, w7, e5, e⟩ := mm_bd3s e
  obtain ⟨w9, w10, w11, w12, w13, w14, e9, e⟩ := mm_bd6s e
  obtain ⟨a1, a2⟩ := fi_e e1 (by omega)
  obtain ⟨b1, b2⟩ := fi_e e3 (by omega)
  unfold fX5_forgetLed at e5
  obtain ⟨c1, c2, c3⟩ := lo_e hm m32 o.1.1 o.1.2 o.2.1 o.2.2 l1 l2 l3 l4 e9
  apply mm_sub13 e
  apply mm_sub3 e5
  refine ⟨rfl, rfl, c1, c2, rfl, rfl, rfl, c3, fun k hk => ?_⟩
  rw [Nat.zero_add]
  exact ⟨a2 k (by omega), b2 k (by omega)⟩
theorem st_8 {x1 rows cols hg wd folds wrong more r rows' cols' h' w' fo' wr' mo' : Int32} {R C B F W A R' C' B' F' W' A' : List Int32} (l1 : R.length = 32) (l2 : C.length = 32) (l3 : B.length = 32) (l4 : F.length = 32) (l5 : W.length = 64) (l6 : A.length = 64) (e : fX8_sheet 700 x1 rows cols hg wd folds wrong more R C B F W A = some (r, rows', cols', h', w', fo', wr', mo', R', C', B', F', W', A')) : (¬ os_w (x1 / (10 : Int32)) (mm_rem x1 (10 : Int32)) ∧ r = -1 ∧ rows' = rows ∧ cols' = cols ∧ h' = hg ∧ w' = wd ∧ fo' = folds ∧ wr' = wrong ∧ mo' = more ∧ R' = R ∧ C' = C ∧ B' = B ∧ F' = F ∧ W' = W ∧ A' = A) ∨ (os_w (x1 / (10 : Int32)) (mm_rem x1 (10 : Int32)) ∧ r = ((10 : Int32) * rows) + cols ∧ rows' = x1 / (10 : Int32) ∧ cols' = mm_rem x1 (10 : Int32) ∧ h' = x1 / (10 : Int32) ∧ w' = mm_rem x1 (10 : Int32) ∧ fo' = 0 ∧ wr' = 0 ∧ mo' = 0 ∧ fl_w ((x1 / (10 : Int32)).toInt * (mm_rem x1 (10 : Int32)).toInt).toNat (mm_rem x1 (10 : Int32)).toInt 0 R' C' B' F' ∧ zc_w 0 W' A') := by
  have n1 : (1 : Int32).toInt = 1 := by decide
  have n4 : (4 : Int32).toInt = 4 := by decide
  have n8 : (8 : Int32).toInt = 8 := by decide
  unfold fX8_sheet at e
  have e := ck_x e
  rw [nm_eq] at e
  have e := ck_x e
  rw [nm_eq] at e
  generalize x1 / (10 : Int32) = a at e ⊢
  generalize mm_rem x1 (10 : Int32) = b at e ⊢
  by_cases c1 : a < (1 : Int32)
  · have d1 := i_lt c1
    rw [if_pos c1] at e
    apply mm_sub14 e
    exact Or.inl ⟨fun h => absurd h.1.1 (by omega), rfl, rfl, rfl, rfl, rfl, rfl, rfl, rfl, rfl, rfl, rfl, rfl, rfl, rfl⟩
  · have d1 := i_nlt c1
    rw [if_neg c1] at e
    by_cases c2 : (4 : Int32) < a
    · have d2 := i_lt c2
      rw [if_pos c2] at e
      apply mm_sub14 e
      exact Or.inl ⟨fun h => absurd h.1.2 (by omega), rfl, rfl, rfl, rfl, rfl, rfl, rfl, rfl, rfl, rfl, rfl, rfl, rfl, rfl⟩
    · have d2 := i_nlt c2
      rw [if_neg c2] at e
      by_cases c3 : b < (1 : Int32)
      · have d3 := i_lt c3
        rw [if_pos c3] at e
        apply mm_sub14 e
        exact Or.inl ⟨fun h => absurd h.2.1 (by omega), rfl, rfl, rfl, rfl, rfl, rfl, rfl, rfl, rfl, rfl, rfl, rfl, rfl, rfl⟩
      · have d3 := i_nlt c3
        rw [if_neg c3] at e
        by_cases c4 : b ≤ (8 : Int32)
        · have d4 := i_le c4
          rw [if_pos c4, nm_eq] at e
          obtain ⟨w10, w11, w12, w13, w14, w15, w16, w17, w18, w19, w20, w21, w22, er, e⟩ := mm_bd13s e
          have o : os_w a b := ⟨⟨by omega, by omega⟩, by omega, by omega⟩
          have hf := i_fl o.1.1 o.1.2 o.2.1 o.2.2
          obtain ⟨q1, q2, q3, q4, q5, q6, q7, q8, q9⟩ := rw_8 (m := (a.toInt * b.toInt).toNat) (by omega) (by omega) o l1 l2 l3 l4 l5 l6 er
          apply mm_sub14 e
          exact Or.inr ⟨o, rfl, q1, q2, q3, q4, q5, q6, q7, q8, q9⟩
        · have d4 := i_nle c4
          rw [if_neg c4] at e
          apply mm_sub14 e
          exact Or.inl ⟨fun h => absurd h.2.2 (by omega), rfl, rfl, rfl, rfl, rfl, rfl, rfl, rfl, rfl, rfl, rfl, rfl, rfl, rfl⟩
theorem in_17 {ro co fd wr : Int32} {sR sC row col bel fac : List Int32} : ∀ (n : Nat) (x3 : Int32) (wo la : List Int32) (ro' co' fd' wr' : Int32) (sR' sC' row' col' bel' fac' wo' la' : List Int32), fX9_isNew_17 700 n x3 ro co fd wr sR sC row col bel fac wo la = some (ro', co', fd', wr', sR', sC', row', col', bel', fac', wo', la') → 0 ≤ x3.toInt → x3.toInt ≤ 64 → wo.length = 384 → la.length = 384 → (∀ k : Nat, k < x3.toInt.toNat → wo.getD k 0 = 0 ∧ la.getD k 0 = 0) → (ro' = ro ∧ co' = co ∧ fd' = 0 ∧ wr' = 0 ∧ sR' = sR ∧ sC' = sC ∧ row' = row ∧ col' = col ∧ bel' = bel ∧ fac' = fac) ∧ zc_w 0 wo' la' ∧ (∀ j : Nat, j < 384 → 64 ≤ j → wo'.getD j 0 = wo.getD j 0 ∧ la'.getD j 0 = la.getD j 0) := by
  have n1 : (1 : Int32).toInt = 1 := by decide
  have n64 : (64 : Int32).toInt = 64 := by decide
  intro n
  induction n with
  | zero =>
    intro x3 wo la ro' co' fd' wr' sR' sC' row' col' bel' fac' wo' la' e
    exact absurd e (by intro h; cases h)
  | succ n ih =>
    intro x3 wo la ro' co' fd' wr' sR' sC' row' col' bel' fac' wo' la' e p0 p1 l1 l2 H
    rw [uf_X9_isNew_17] at e
    by_cases c : (64 : Int32) ≤ x3
    · rw [if_pos c] at e
      have d := i_le c
      apply mm_sub12 e
      refine ⟨⟨rfl, rfl, rfl, rfl, rfl, rfl, rfl, rfl, rfl, rfl⟩, fun k hk => ?_, fun j _ _ => ⟨rfl, rfl⟩⟩
      rw [Nat.zero_add]
      exact H k (by omega)
    · rw [if_neg c] at e
      have d := i_nle c
      have e := ck_x e
      rw [nm_eq] at e
      have e := ck_x e
      rw [nm_eq, nm_eq] at e
      have s1 := ps_is wo x3 (0 : Int32)
      have s2 := ps_is la x3 (0 : Int32)
      generalize hy : x3 + (1 : Int32) = y at e
      have ey := i_addE hy (by omega) (by omega)
      obtain ⟨q1, q2, q3⟩ := ih y _ _ ro' co' fd' wr' sR' sC' row' col' bel' fac' wo' la' e (by omega) (by omega) (by rw [is_len]; exact l1) (by rw [is_len]; exact l2) (fun k hk => by
        by_cases g : x3.toInt.toNat = k
        · rw [← g, ps_at s1 (by omega), ps_at s2 (by omega)]
          exact ⟨rfl, rfl⟩
        · rw [ps_ne s1 (by omega) g, ps_ne s2 (by omega) g]
          exact H k (by omega))
      refine ⟨q1, q2, fun j hj hk => ?_⟩
      obtain ⟨u1, u2⟩ := q3 j hj hk
      rw [u1, u2, ps_ne s1 (by omega) (by omega), ps_ne s2 (by omega) (by omega)]
      exact ⟨rfl, rfl⟩
theorem st_9 {x1 ro co fd wr r ro' co' fd' wr' : Int32} {sR sC row col bel fac wo la sR' sC' row' col' bel' fac' wo' la' : List Int32} (l1 : row.length = 192) (l2 : col.length = 192) (l3 : bel.length = 192) (l4 : fac.length = 192) (l5 : wo.length = 384) (l6 : la.length = 384) (e : fX9_sheet 700 x1 ro co fd wr sR sC row col bel fac wo la = some (r, ro', co', fd', wr', sR', sC', row', col', bel', fac', wo', la')) : (¬ os_w (x1 / (10 : Int32)) (mm_rem x1 (10 : Int32)) ∧ r = -1 ∧ ro' = ro ∧ co' = co ∧ fd' = fd ∧ wr' = wr ∧ sR' = sR ∧ sC' = sC ∧ row' = row ∧ col' = col ∧ bel' = bel ∧ fac' = fac ∧ wo' = wo ∧ la' = la) ∨ (os_w (x1 / (10 : Int32)) (mm_rem x1 (10 : Int32)) ∧ r = ((10 : Int32) * ro) + co ∧ ro' = x1 / (10 : Int32) ∧ co' = mm_rem x1 (10 : Int32) ∧ fd' = 0 ∧ wr' = 0 ∧ sR' = mm_is sR (0 : Int32) (x1 / (10 : Int32)) ∧ sC' = mm_is sC (0 : Int32) (mm_rem x1 (10 : Int32)) ∧ fq_w 0 32 row col bel fac row' col' bel' fac' ∧ fl_w ((x1 / (10 : Int32)).toInt * (mm_rem x1 (10 : Int32)).toInt).toNat (mm_rem x1 (10 : Int32)).toInt 0 row' col' bel' fac' ∧ zc_w 0 wo' la' ∧ (∀ j : Nat, j < 384 → 64 ≤ j → wo'.getD j 0 = wo.getD j 0 ∧ la'.getD j 0 = la.getD j 0)) := by
  have n0 : (0 : Int32).toInt = 0 := by decide
  have z0 : (0 : Int32).toInt.toNat = 0 := by decide
  have m1 : (1 : Int64).toInt = 1 := by decide
  have m4 : (4 : Int64).toInt = 4 := by decide
  have m8 : (8 : Int64).toInt = 8 := by decide
  unfold fX9_sheet at e
  by_cases c : x1 < 0
  · have d := i_lt c
    have dn := dn_x (show x1.toInt < 0 by omega)
    rw [if_pos c] at e
    apply mm_sub13 e
    exact Or.inl ⟨fun h => absurd h.1.1 (by omega), rfl, rfl, rfl, rfl, rfl, rfl, rfl, rfl, rfl, rfl, rfl, rfl, rfl⟩
  · rw [if_neg c] at e
    have e := ck_x e
    rw [wn_x, bs_1, i_64, m1, m4] at e
    generalize x1 / (10 : Int32) = a at e ⊢
    generalize mm_rem x1 (10 : Int32) = b at e ⊢
    by_cases c1 : 1 ≤ a.toInt ∧ a.toInt ≤ 4
    · rw [decide_eq_true c1, if_neg (by decide)] at e
      have e := ck_x e
      rw [wn_x, bs_1, i_64, m1, m8] at e
      by_cases c2 : 1 ≤ b.toInt ∧ b.toInt ≤ 8
      · rw [decide_eq_true c2, if_neg (by decide), nm_eq] at e
        have e := ck_x (ck_x e)
        obtain ⟨w13, w14, w15, w16, w17, w18, w19, w20, w21, w22, w23, w24, en, e⟩ := mm_bd12s e
        apply mm_sub13 e
        unfold fX9_isNew at en
        obtain ⟨u1, u2, u3, u4, u5, u6, el, en⟩ := mm_bd6s en
        have hf := i_fl c1.1 c1.2 c2.1 c2.2
        obtain ⟨q1, q2, ⟨q3, q4, q5, q6⟩, q7, q8⟩ := li_e (m := (a.toInt * b.toInt).toNat) (by omega) (by omega) c2.1 c2.2 (by omega) (by omega) l1 l2 l3 l4 el
        obtain ⟨⟨v1, v2, v3, v4, v5, v6, v7, v8, v9, v10⟩, v11, v12⟩ := in_17 700 (0 : Int32) wo la _ _ _ _ _ _ _ _ _ _ _ _ en (by omega) (by omega) l5 l6 (fun k hk => absurd hk (by omega))
        rw [z0, Nat.mul_zero] at q7 q8
        subst v5 v6 v7 v8 v9 v10
        exact Or.inr ⟨⟨c1, c2⟩, rfl, v1, v2, v3, v4, q1, q2, fun j hj hk => q7 j hj (by omega), q8, v11, v12⟩
      · rw [decide_eq_false c2, if_pos rfl] at e
        apply mm_sub13 e
        exact Or.inl ⟨fun h => c2 h.2, rfl, rfl, rfl, rfl, rfl, rfl, rfl, rfl, rfl, rfl, rfl, rfl, rfl⟩
    · rw [decide_eq_false c1, if_pos rfl] at e
      apply mm_sub13 e
      exact Or.inl ⟨fun h => c1 h.1, rfl, rfl, rfl, rfl, rfl, rfl, rfl, rfl, rfl, rfl, rfl, rfl, rfl⟩
