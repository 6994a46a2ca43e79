/-! Geometry: the reference's moves, the loops -/
theorem pm_174 {x1 x2 x4 x5 x6 x7 x8 ro co : Int32} {sR sC row col bel PS : List Int32} {z : (List Int32 × List Int32 × List Int32 × List Int32 × List Int32 × List Int32 × List Int32 × List Int32 × List Int32)} {m : Nat} (hm : (ro * co).toInt = m) (m32 : m ≤ 32) (L0 : 0 ≤ x1.toInt) (L5 : x1.toInt ≤ 5) : ∀ (n : Nat) (x9 : Int32) (fac hi to : List Int32), fX9_movesAll_174 700 n x1 x2 x4 x5 x6 x7 x8 x9 ro co sR sC row col bel fac hi to PS = some z → 0 ≤ x9.toInt → x9.toInt ≤ m → fac.length = 192 → hi.length = 32 → to.length = 32 → ∃ fac1 hi1 to1 : List Int32, (fac1.length = 192 ∧ hi1.length = 32 ∧ to1.length = 32) ∧ (∀ k : Nat, k < x9.toInt.toNat → hi1.getD k 0 = hi.getD k 0 ∧ to1.getD k 0 = to.getD k 0) ∧ (∀ j : Nat, j < 192 → (j < 32 * x1.toInt.toNat + x9.toInt.toNat ∨ 32 * x1.toInt.toNat + m ≤ j) → fac1.getD j 0 = fac.getD j 0) ∧ (∀ k : Nat, x9.toInt.toNat ≤ k → k < m → mr_w PS x7 x4 x5 x6 x2 x8 (row.getD (32 * x1.toInt.toNat + k) 0) (col.getD (32 * x1.toInt.toNat + k) 0) (bel.getD (32 * x1.toInt.toNat + k) 0) (fac.getD (32 * x1.toInt.toNat + k) 0) (hi1.getD k 0) (fac1.getD (32 * x1.toInt.toNat + k) 0) (to1.getD k 0)) ∧ fX9_movesAll_411 700 700 x1 x2 x4 x7 (0 : Int32) ro co sR sC row col bel fac1 hi1 to1 PS = some z := by
  have n1 : (1 : Int32).toInt = 1 := by decide
  intro n
  induction n with
  | zero =>
    intro x9 fac hi to e
    exact absurd e (by intro h; cases h)
  | succ n ih =>
    intro x9 fac hi to e p0 p1 l1 l2 l3
    rw [uf_X9_movesAll_174] at e
    obtain ⟨fl, ef, e⟩ := mm_bd1s e
    have hf : ro * co = fl := sm_i ef
    subst hf
    by_cases c : ro * co ≤ x9
    · rw [if_pos c] at e
      have d := i_le c
      exact ⟨fac, hi, to, ⟨l1, l2, l3⟩, fun k hk => ⟨rfl, rfl⟩, fun j _ _ => rfl, fun k k0 k1 => absurd k1 (by omega), e⟩
    · rw [if_neg c] at e
      have d := i_nle c
      rw [nm_eq] at e
      obtain ⟨a, ea, e⟩ := mm_bd1s e
      have ha := pl_e ea
      have e2 : fX9_movesAll_217 700 (fX9_movesAll_174 700 n) x1 x2 x4 x5 x6 x7 x8 x9 (((32 : Int32) * x1) + x9) a (if x4 = 0 then (1 : Int32) else (0 : Int32)) x9 x1 ro co sR sC row col bel fac hi to PS = some z := by
        by_cases g : x4 = 0
        · rw [if_pos g] at e ⊢
          exact e
        · rw [if_neg g] at e ⊢
          exact e
      have io := ix_e L0 L5 p0 (show x9.toInt ≤ 64 by omega)
      rw [io] at ha
      obtain ⟨fac1, hi1, to1, e3, b', f', p', hv, s1, s2, s3⟩ := pm_217 io ha e2
      generalize hy : x9 + (1 : Int32) = y at e3
      have ey := i_addE hy (by omega) (by omega)
      obtain ⟨fac2, hi2, to2, ⟨g1, g2, g3⟩, j1, j2, j3, j4⟩ := ih y fac1 hi1 to1 e3 (by omega) (by omega) (by rw [s3.1]; exact l1) (by rw [s1.1]; exact l2) (by rw [s2.1]; exact l3)
      refine ⟨fac2, hi2, to2, ⟨g1, g2, g3⟩, fun k hk => ?_, fun j hj hk => ?_, fun k k0 k1 => ?_, j4⟩
      · obtain ⟨q1, q2⟩ := j1 k (by omega)
        rw [q1, q2, ps_ne s1 (by omega) (by omega), ps_ne s2 (by omega) (by omega)]
        exact ⟨rfl, rfl⟩
      · rw [j2 j hj (by omega), ps_ne s3 (by omega) (by omega)]
      · by_cases g : x9.toInt.toNat = k
        · obtain ⟨q1, q2⟩ := j1 k (by omega)
          have q3 := j2 (32 * x1.toInt.toNat + k) (by omega) (by omega)
          rw [← g] at q1 q2 q3 ⊢
          rw [q1, q2, q3, ps_at s1 (by omega), ps_at s2 (by omega), ps_at s3 (by omega)]
          exact hv
        · have q := j3 k (by omega) k1
          rw [ps_ne s3 (by omega) (by omega)] at q
          exact q
def lf_w (x2 x7 : Int32) : Int32 := if x2 ≤ (x7 - x2) then x7 - x2 else x2
theorem pm_411 {x1 x2 x4 x7 ro co : Int32} {sR sC fac hi to PS : List Int32} {m : Nat} (hm : (ro * co).toInt = m) (m32 : m ≤ 32) (L0 : 0 ≤ x1.toInt) (L5 : x1.toInt ≤ 5) : ∀ (n : Nat) (x9 : Int32) (row col bel sR' sC' row' col' bel' fac' hi' to' PS' : List Int32), fX9_movesAll_411 700 n x1 x2 x4 x7 x9 ro co sR sC row col bel fac hi to PS = some (sR', sC', row', col', bel', fac', hi', to', PS') → 0 ≤ x9.toInt → x9.toInt ≤ m → row.length = 192 → col.length = 192 → bel.length = 192 → (fac' = fac ∧ sR' = (if x4 = 0 then mm_is sR x1 (lf_w x2 x7) else sR) ∧ sC' = (if x4 = 0 then sC else mm_is sC x1 (lf_w x2 x7)) ∧ row'.length = 192 ∧ col'.length = 192 ∧ bel'.length = 192 ∧ hi' = hi ∧ to' = to ∧ PS' = PS) ∧ (∀ j : Nat, j < 192 → (j < 32 * x1.toInt.toNat + x9.toInt.toNat ∨ 32 * x1.toInt.toNat + m ≤ j) → row'.getD j 0 = row.getD j 0 ∧ col'.getD j 0 = col.getD j 0 ∧ bel'.getD j 0 = bel.getD j 0) ∧ (∀ k : Nat, x9.toInt.toNat ≤ k → k < m → row'.getD (32 * x1.toInt.toNat + k) 0 = (if x4 = 0 then to.getD k 0 else row.getD (32 * x1.toInt.toNat + k) 0) ∧ col'.getD (32 * x1.toInt.toNat + k) 0 = (if x4 = 0 then col.getD (32 * x1.toInt.toNat + k) 0 else to.getD k 0) ∧ bel'.getD (32 * x1.toInt.toNat + k) 0 = hi.getD k 0) := by
  have n1 : (1 : Int32).toInt = 1 := by decide
  intro n
  induction n with
  | zero =>
    intro x9 row col bel sR' sC' row' col' bel' fac' hi' to' PS' e
    exact absurd e (by intro h; cases h)
  | succ n ih =>
    intro x9 row col bel sR' sC' row' col' bel' fac' hi' to' PS' e p0 p1 l1 l2 l3
    rw [uf_X9_movesAll_411] at e
    obtain ⟨fl, ef, e⟩ := mm_bd1s e
    have hf : ro * co = fl := sm_i ef
    subst hf
    by_cases c : ro * co ≤ x9
    · rw [if_pos c] at e
      have d := i_le c
      have e2 : fX9_movesAll_507 700 x1 x4 (lf_w x2 x7) ro co sR sC row col bel fac hi to PS = some (sR', sC', row', col', bel', fac', hi', to', PS') := by
        unfold lf_w
        by_cases g : x2 ≤ (x7 - x2)
        · rw [if_pos g] at e ⊢
          exact e
        · rw [if_neg g] at e ⊢
          exact e
      rw [uf_X9_movesAll_507] at e2
      by_cases g : x4 = 0
      · rw [if_pos g] at e2
        have e2 := ck_x e2
        rw [nm_eq] at e2
        apply mm_sub9 e2
        rw [if_pos g, if_pos g]
        exact ⟨⟨rfl, rfl, rfl, l1, l2, l3, rfl, rfl, rfl⟩, fun j _ _ => ⟨rfl, rfl, rfl⟩, fun k k0 k1 => absurd k1 (by omega)⟩
      · rw [if_neg g] at e2
        have e2 := ck_x e2
        rw [nm_eq] at e2
        apply mm_sub9 e2
        rw [if_neg g, if_neg g]
        exact ⟨⟨rfl, rfl, rfl, l1, l2, l3, rfl, rfl, rfl⟩, fun j _ _ => ⟨rfl, rfl, rfl⟩, fun k k0 k1 => absurd k1 (by omega)⟩
    · rw [if_neg c] at e
      have d := i_nle c
      have e := ck_x e
      rw [nm_eq] at e
      have e := ck_x e
      rw [nm_eq] at e
      have io := ix_e L0 L5 p0 (show x9.toInt ≤ 64 by omega)
      have key : ∀ (row1 col1 : List Int32), fX9_movesAll_485 700 (fX9_movesAll_411 700 n) x1 x2 x4 x7 x9 ro co sR sC row1 col1 (mm_is bel (((32 : Int32) * x1) + x9) (mm_ig hi x9)) fac hi to PS = some (sR', sC', row', col', bel', fac', hi', to', PS') → ps_w row row1 (32 * x1.toInt.toNat + x9.toInt.toNat) (if x4 = 0 then to.getD x9.toInt.toNat 0 else row.getD (32 * x1.toInt.toNat + x9.toInt.toNat) 0) → ps_w col col1 (32 * x1.toInt.toNat + x9.toInt.toNat) (if x4 = 0 then col.getD (32 * x1.toInt.toNat + x9.toInt.toNat) 0 else to.getD x9.toInt.toNat 0) → (fac' = fac ∧ sR' = (if x4 = 0 then mm_is sR x1 (lf_w x2 x7) else sR) ∧ sC' = (if x4 = 0 then sC else mm_is sC x1 (lf_w x2 x7)) ∧ row'.length = 192 ∧ col'.length = 192 ∧ bel'.length = 192 ∧ hi' = hi ∧ to' = to ∧ PS' = PS) ∧ (∀ j : Nat, j < 192 → (j < 32 * x1.toInt.toNat + x9.toInt.toNat ∨ 32 * x1.toInt.toNat + m ≤ j) → row'.getD j 0 = row.getD j 0 ∧ col'.getD j 0 = col.getD j 0 ∧ bel'.getD j 0 = bel.getD j 0) ∧ (∀ k : Nat, x9.toInt.toNat ≤ k → k < m → row'.getD (32 * x1.toInt.toNat + k) 0 = (if x4 = 0 then to.getD k 0 else row.getD (32 * x1.toInt.toNat + k) 0) ∧ col'.getD (32 * x1.toInt.toNat + k) 0 = (if x4 = 0 then col.getD (32 * x1.toInt.toNat + k) 0 else to.getD k 0) ∧ bel'.getD (32 * x1.toInt.toNat + k) 0 = hi.getD k 0) := by
        intro row1 col1 e s1 s2
        have s3 := ps_is bel (((32 : Int32) * x1) + x9) (mm_ig hi x9)
        rw [io] at s3
        rw [uf_X9_movesAll_485, nm_eq] at e
        generalize hy : x9 + (1 : Int32) = y at e
        have ey := i_addE hy (by omega) (by omega)
        obtain ⟨j1, j2, j3⟩ := ih y row1 col1 _ sR' sC' row' col' bel' fac' hi' to' PS' e (by omega) (by omega) (by rw [s1.1]; exact l1) (by rw [s2.1]; exact l2) (by rw [s3.1]; exact l3)
        refine ⟨j1, fun j hj hk => ?_, fun k k0 k1 => ?_⟩
        · obtain ⟨q1, q2, q3⟩ := j2 j hj (by omega)
          rw [q1, q2, q3, ps_ne s1 (by omega) (by omega), ps_ne s2 (by omega) (by omega), ps_ne s3 (by omega) (by omega)]
          exact ⟨rfl, rfl, rfl⟩
        · by_cases g : x9.toInt.toNat = k
          · obtain ⟨q1, q2, q3⟩ := j2 (32 * x1.toInt.toNat + k) (by omega) (by omega)
            rw [← g] at q1 q2 q3 ⊢
            rw [q1, q2, q3, ps_at s1 (by omega), ps_at s2 (by omega), ps_at s3 (by omega)]
            exact ⟨rfl, rfl, rfl⟩
          · obtain ⟨q1, q2, q3⟩ := j3 k (by omega) k1
            rw [q1, q2, q3, ps_ne s1 (by omega) (by omega), ps_ne s2 (by omega) (by omega)]
            exact ⟨rfl, rfl, rfl⟩
      by_cases g : x4 = 0
      · rw [if_pos g] at e
        have e := ck_x e
        rw [nm_eq] at e
        have e := ck_x e
        rw [nm_eq] at e
        refine key _ _ e ?_ ?_
        · rw [if_pos g, ← io]
          exact ps_is _ _ _
        · rw [if_pos g]
          exact ps_id _ _
      · rw [if_neg g] at e
        have e := ck_x e
        rw [nm_eq] at e
        have e := ck_x e
        rw [nm_eq] at e
        refine key _ _ e ?_ ?_
        · rw [if_neg g]
          exact ps_id _ _
        · rw [if_neg g, ← io]
          exact ps_is _ _ _
def b9_w (w : Int32) : Int32 := if (4 : Int32) ≤ w then (0 : Int32) else (1 : Int32)
def l9_w (w : Int32) : Int32 := if (2 : Int32) ≤ (mm_rem w (4 : Int32)) then (0 : Int32) else (1 : Int32)
def v9_w (w : Int32) : Int32 := if (mm_rem w (2 : Int32)) = 0 then (1 : Int32) else (0 : Int32)
def s9_w (x2 x5 x7 : Int32) : Int32 := if x5 = 0 then (if (0 : Int32) ≤ (((2 : Int32) * x2) - x7) then (0 : Int32) else (((2 : Int32) * x2) - x7)) else x2
theorem mo_e {x1 x2 w ro co : Int32} {sR sC row col bel fac hi to PS sR' sC' row' col' bel' fac' hi' to' PS' : List Int32} {m : Nat} (hm : (ro * co).toInt = m) (m32 : m ≤ 32) (L0 : 0 ≤ x1.toInt) (L5 : x1.toInt ≤ 5) (l1 : row.length = 192) (l2 : col.length = 192) (l3 : bel.length = 192) (l4 : fac.length = 192) (l5 : hi.length = 32) (l6 : to.length = 32) (l7 : PS.length = 64) (e : fX9_movesAll 700 x1 x2 w ro co sR sC row col bel fac hi to PS = some (sR', sC', row', col', bel', fac', hi', to', PS')) : ∃ (x7 : Int32) (PS1 hi1 to1 : List Int32), x7 = (if b9_w w = 0 then mm_ig sR x1 else mm_ig sC x1) ∧ PS1.length = 64 ∧ (∀ j : Nat, j < 64 → PS1.getD j 0 = kc_w (fun k => decide ((iw_w (b9_w w) (row.getD (32 * x1.toInt.toNat + k) 0) (col.getD (32 * x1.toInt.toNat + k) 0)).toInt.toNat = j)) 0 m) ∧ (sR' = (if b9_w w = 0 then mm_is sR x1 (lf_w x2 x7) else sR) ∧ sC' = (if b9_w w = 0 then sC else mm_is sC x1 (lf_w x2 x7))) ∧ (∀ j : Nat, j < 192 → (j < 32 * x1.toInt.toNat ∨ 32 * x1.toInt.toNat + m ≤ j) → row'.getD j 0 = row.getD j 0 ∧ col'.getD j 0 = col.getD j 0 ∧ bel'.getD j 0 = bel.getD j 0 ∧ fac'.getD j 0 = fac.getD j 0) ∧ (∀ k : Nat, k < m → mr_w PS1 x7 (b9_w w) (l9_w w) (v9_w w) x2 (s9_w x2 (l9_w w) x7) (row.getD (32 * x1.toInt.toNat + k) 0) (col.getD (32 * x1.toInt.toNat + k) 0) (bel.getD (32 * x1.toInt.toNat + k) 0) (fac.getD (32 * x1.toInt.toNat + k) 0) (bel'.getD (32 * x1.toInt.toNat + k) 0) (fac'.getD (32 * x1.toInt.toNat + k) 0) (to1.getD k 0) ∧ row'.getD (32 * x1.toInt.toNat + k) 0 = (if b9_w w = 0 then to1.getD k 0 else row.getD (32 * x1.toInt.toNat + k) 0) ∧ col'.getD (32 * x1.toInt.toNat + k) 0 = (if b9_w w = 0 then col.getD (32 * x1.toInt.toNat + k) 0 else to1.getD k 0)) ∧ (row'.length = 192 ∧ col'.length = 192 ∧ bel'.length = 192 ∧ fac'.length = 192 ∧ hi'.length = 32 ∧ to'.length = 32 ∧ PS'.length = 64) := by
  have n0 : (0 : Int32).toInt = 0 := by decide
  have e10 : fX9_movesAll_10 700 x1 x2 w (b9_w w) ro co sR sC row col bel fac hi to PS = some (sR', sC', row', col', bel', fac', hi', to', PS') := by
    rw [uf_X9_movesAll] at e
    unfold b9_w
    by_cases g : (4 : Int32) ≤ w
    · rw [if_pos g] at e ⊢
      exact e
    · rw [if_neg g] at e ⊢
      exact e
  generalize b9_w w = x4 at e10 ⊢
  have e24 : fX9_movesAll_24 700 x1 x2 w x4 (l9_w w) ro co sR sC row col bel fac hi to PS = some (sR', sC', row', col', bel', fac', hi', to', PS') := by
    rw [uf_X9_movesAll_10] at e10
    have e10 := ck_x e10
    unfold l9_w
    by_cases g : (2 : Int32) ≤ (mm_rem w (4 : Int32))
    · rw [if_pos g] at e10 ⊢
      exact e10
    · rw [if_neg g] at e10 ⊢
      exact e10
  generalize l9_w w = x5 at e24 ⊢
  have e37 : fX9_movesAll_37 700 x1 x2 x4 x5 (v9_w w) ro co sR sC row col bel fac hi to PS = some (sR', sC', row', col', bel', fac', hi', to', PS') := by
    rw [uf_X9_movesAll_24] at e24
    have e24 := ck_x e24
    unfold v9_w
    by_cases g : (mm_rem w (2 : Int32)) = 0
    · rw [if_pos g] at e24 ⊢
      exact e24
    · rw [if_neg g] at e24 ⊢
      exact e24
  generalize v9_w w = x6 at e37 ⊢
  have e59 : fX9_movesAll_59 700 x1 x2 x4 x5 x6 (if x4 = 0 then mm_ig sR x1 else mm_ig sC x1) ro co sR sC row col bel fac hi to PS = some (sR', sC', row', col', bel', fac', hi', to', PS') := by
    rw [uf_X9_movesAll_37] at e37
    by_cases g : x4 = 0
    · rw [if_pos g] at e37 ⊢
      exact ck_x e37
    · rw [if_neg g] at e37 ⊢
      exact ck_x e37
  refine ⟨(if x4 = 0 then mm_ig sR x1 else mm_ig sC x1), ?_⟩
  generalize (if x4 = 0 then mm_ig sR x1 else mm_ig sC x1) = x7 at e59 ⊢
  have e94 : fX9_movesAll_94 700 700 x1 x2 x4 x5 x6 x7 (s9_w x2 x5 x7) (0 : Int32) ro co sR sC row col bel fac hi to PS = some (sR', sC', row', col', bel', fac', hi', to', PS') := by
    rw [uf_X9_movesAll_59] at e59
    unfold s9_w
    by_cases g : x5 = 0
    · rw [if_pos g] at e59 ⊢
      by_cases h : (0 : Int32) ≤ (((2 : Int32) * x2) - x7)
      · rw [if_pos h] at e59 ⊢
        rw [uf_X9_movesAll_89] at e59
        exact e59
      · rw [if_neg h] at e59 ⊢
        rw [uf_X9_movesAll_89] at e59
        exact e59
    · rw [if_neg g] at e59 ⊢
      rw [uf_X9_movesAll_89] at e59
      exact e59
  obtain ⟨PS0, a1, a2, e118⟩ := pm_94 700 (0 : Int32) PS e94 (by omega) (by omega) l7 (fun k hk => absurd hk (by omega))
  obtain ⟨PS1, b1, b2, e174⟩ := pm_118 hm m32 L0 L5 700 (0 : Int32) PS0 e118 (by omega) (by omega) a1
  obtain ⟨fac1, hi1, to1, ⟨c1, c2, c3⟩, -, d2, d3, e411⟩ := pm_174 hm m32 L0 L5 700 (0 : Int32) fac hi to e174 (by omega) (by omega) l4 l5 l6
  obtain ⟨⟨f1, f2, f3, f4, f5, f6, f7, f8, f9⟩, g2, g3⟩ := pm_411 hm m32 L0 L5 700 (0 : Int32) row col bel sR' sC' row' col' bel' fac' hi' to' PS' e411 (by omega) (by omega) l1 l2 l3
  have z0 : (0 : Int32).toInt.toNat = 0 := by decide
  rw [z0] at b2 d2 d3 g2 g3
  subst f1 f7 f8 f9
  refine ⟨PS', hi', to', rfl, b1, fun j hj => ?_, ⟨f2, f3⟩, fun j hj hk => ?_, fun k hk => ?_, ⟨f4, f5, f6, c1, c2, c3, b1⟩⟩
  · rw [b2 j hj, a2 j hj, Int32.zero_add]
    rfl
  · obtain ⟨q1, q2, q3⟩ := g2 j hj (by omega)
    exact ⟨q1, q2, q3, d2 j hj (by omega)⟩
  · obtain ⟨q1, q2, q3⟩ := g3 k (by omega) hk
    have q := d3 k (by omega) hk
    rw [← q3] at q
    exact ⟨q, q1, q2⟩
