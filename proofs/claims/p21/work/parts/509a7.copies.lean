section
/-! Geometry: copies -/
theorem ps_to {l : List Int32} {i v u : Int32} {a : Nat} (h1 : i.toInt.toNat = a) (h2 : v = u) : ps_w l (mm_is l i v) a u := by
  rw [← h1, ← h2]
  exact ps_is l i v
theorem iy_e {x1 x9 : Int32} (h0 : 0 ≤ x1.toInt) (h1 : x1.toInt ≤ 5) (k0 : 0 ≤ x9.toInt) (k1 : x9.toInt ≤ 64) : (((64 : Int32) * x1) + x9).toInt.toNat = 64 * x1.toInt.toNat + x9.toInt.toNat := by
  generalize hz : (64 : Int32) * x1 = z
  have ez := i_mulLE (c := 64) (by decide) hz (by omega) (by omega)
  generalize hy : z + x9 = y
  have ey := i_addE hy (by omega) (by omega)
  omega
/-- creases of a level kept elsewhere -/
def fc_w (o : Nat) (wo la wo' la' : List Int32) : Prop := ∀ j : Nat, j < 384 → (j < o ∨ o + 64 ≤ j) → wo'.getD j 0 = wo.getD j 0 ∧ la'.getD j 0 = la.getD j 0
theorem co_128 {x1 x2 : Int32} {sR sC row col bel fac : List Int32} (a0 : 0 ≤ x1.toInt) (a5 : x1.toInt ≤ 5) (b0 : 0 ≤ x2.toInt) (b5 : x2.toInt ≤ 5) (ab : x1.toInt ≠ x2.toInt) : ∀ (n : Nat) (x3 : Int32) (wo la sR' sC' row' col' bel' fac' wo' la' : List Int32), fX9_copies_128 700 n x1 x2 x3 sR sC row col bel fac wo la = some (sR', sC', row', col', bel', fac', wo', la') → 0 ≤ x3.toInt → x3.toInt ≤ 64 → wo.length = 384 → la.length = 384 → (sR' = sR ∧ sC' = sC ∧ row' = row ∧ col' = col ∧ bel' = bel ∧ fac' = fac ∧ wo'.length = 384 ∧ la'.length = 384) ∧ (∀ j : Nat, j < 384 → (j < 64 * x2.toInt.toNat + x3.toInt.toNat ∨ 64 * x2.toInt.toNat + 64 ≤ j) → wo'.getD j 0 = wo.getD j 0 ∧ la'.getD j 0 = la.getD j 0) ∧ (∀ k : Nat, x3.toInt.toNat ≤ k → k < 64 → wo'.getD (64 * x2.toInt.toNat + k) 0 = wo.getD (64 * x1.toInt.toNat + k) 0 ∧ la'.getD (64 * x2.toInt.toNat + k) 0 = la.getD (64 * x1.toInt.toNat + k) 0) := by
  have n1 : (1 : Int32).toInt = 1 := by decide
  have n64 : (64 : Int32).toInt = 64 := by decide
  intro n
  induction n with
  | zero =>
    intro x3 wo la sR' sC' row' col' bel' fac' wo' la' e
    exact absurd e (by intro h; cases h)
  | succ n ih =>
    intro x3 wo la sR' sC' row' col' bel' fac' wo' la' e p0 p1 l1 l2
    rw [uf_X9_copies_128] at e
    by_cases c : (64 : Int32) ≤ x3
    · rw [if_pos c] at e
      have d := i_le c
      have e := sm_i e
      injection e with e1 e
      injection e with e2 e
      injection e with e3 e
      injection e with e4 e
      injection e with e5 e
      injection e with e6 e
      injection e with e7 e8
      subst e1 e2 e3 e4 e5 e6 e7 e8
      exact ⟨⟨rfl, rfl, rfl, rfl, rfl, rfl, l1, l2⟩, fun j _ _ => ⟨rfl, rfl⟩, fun k k0 k1 => absurd k1 (by omega)⟩
    · rw [if_neg c] at e
      have d := i_nle c
      have e := ck_x e
      rw [nm_eq] at e
      have e := ck_x e
      rw [nm_eq] at e
      have e := ck_x e
      rw [nm_eq] at e
      have e := ck_x e
      rw [nm_eq] at e
      rw [nm_eq] at e
      have i1 := iy_e a0 a5 p0 p1
      have i2 := iy_e b0 b5 p0 p1
      have s1 := ps_to (l := wo) (i := (((64 : Int32) * x2) + x3)) i2 (show mm_ig wo (((64 : Int32) * x1) + x3) = wo.getD (64 * x1.toInt.toNat + x3.toInt.toNat) 0 by rw [ge_ig, i1])
      have s2 := ps_to (l := la) (i := (((64 : Int32) * x2) + x3)) i2 (show mm_ig la (((64 : Int32) * x1) + x3) = la.getD (64 * x1.toInt.toNat + x3.toInt.toNat) 0 by rw [ge_ig, i1])
      generalize hy : x3 + (1 : Int32) = y at e
      have ey := i_addE hy (by omega) (by omega)
      obtain ⟨q1, q2, q3⟩ := ih y _ _ sR' sC' row' col' bel' fac' wo' la' e (by omega) (by omega) (by rw [is_len]; exact l1) (by rw [is_len]; exact l2)
      refine ⟨q1, fun j hj hk => ?_, fun k k0 k1 => ?_⟩
      · obtain ⟨u1, u2⟩ := q2 j hj (by omega)
        rw [u1, u2, ps_ne s1 (by omega) (by omega), ps_ne s2 (by omega) (by omega)]
        exact ⟨rfl, rfl⟩
      · by_cases g : x3.toInt.toNat = k
        · obtain ⟨u1, u2⟩ := q2 (64 * x2.toInt.toNat + k) (by omega) (by omega)
          rw [← g] at u1 u2 ⊢
          rw [u1, u2, ps_at s1 (by omega), ps_at s2 (by omega)]
          exact ⟨rfl, rfl⟩
        · obtain ⟨u1, u2⟩ := q3 k (by omega) k1
          rw [u1, u2, ps_ne s1 (by omega) (by omega), ps_ne s2 (by omega) (by omega)]
          exact ⟨rfl, rfl⟩
theorem co_26 {x1 x2 : Int32} {sR sC wo la : List Int32} {z : List Int32 × List Int32 × List Int32 × List Int32 × List Int32 × List Int32 × List Int32 × List Int32} (a0 : 0 ≤ x1.toInt) (a5 : x1.toInt ≤ 5) (b0 : 0 ≤ x2.toInt) (b5 : x2.toInt ≤ 5) (ab : x1.toInt ≠ x2.toInt) : ∀ (n : Nat) (x3 : Int32) (row col bel fac : List Int32), fX9_copies_26 700 n x1 x2 x3 sR sC row col bel fac wo la = some z → 0 ≤ x3.toInt → x3.toInt ≤ 32 → row.length = 192 → col.length = 192 → bel.length = 192 → fac.length = 192 → ∃ row' col' bel' fac' : List Int32, fX9_copies_128 700 700 x1 x2 (0 : Int32) sR sC row' col' bel' fac' wo la = some z ∧ (row'.length = 192 ∧ col'.length = 192 ∧ bel'.length = 192 ∧ fac'.length = 192) ∧ (∀ j : Nat, j < 192 → (j < 32 * x2.toInt.toNat + x3.toInt.toNat ∨ 32 * x2.toInt.toNat + 32 ≤ j) → row'.getD j 0 = row.getD j 0 ∧ col'.getD j 0 = col.getD j 0 ∧ bel'.getD j 0 = bel.getD j 0 ∧ fac'.getD j 0 = fac.getD j 0) ∧ (∀ k : Nat, x3.toInt.toNat ≤ k → k < 32 → row'.getD (32 * x2.toInt.toNat + k) 0 = row.getD (32 * x1.toInt.toNat + k) 0 ∧ col'.getD (32 * x2.toInt.toNat + k) 0 = col.getD (32 * x1.toInt.toNat + k) 0 ∧ bel'.getD (32 * x2.toInt.toNat + k) 0 = bel.getD (32 * x1.toInt.toNat + k) 0 ∧ fac'.getD (32 * x2.toInt.toNat + k) 0 = fac.getD (32 * x1.toInt.toNat + k) 0) := by
  have n1 : (1 : Int32).toInt = 1 := by decide
  have n32 : (32 : Int32).toInt = 32 := by decide
  intro n
  induction n with
  | zero =>
    intro x3 row col bel fac e
    exact absurd e (by intro h; cases h)
  | succ n ih =>
    intro x3 row col bel fac e p0 p1 l1 l2 l3 l4
    rw [uf_X9_copies_26] at e
    by_cases c : (32 : Int32) ≤ x3
    · rw [if_pos c] at e
      have d := i_le c
      exact ⟨row, col, bel, fac, e, ⟨l1, l2, l3, l4⟩, fun j _ _ => ⟨rfl, rfl, rfl, rfl⟩, fun k k0 k1 => absurd k1 (by omega)⟩
    · rw [if_neg c] at e
      have d := i_nle c
      have e := ck_x e
      rw [nm_eq] at e
      have e := ck_x e
      rw [nm_eq] at e
      have e := ck_x e
      rw [nm_eq] at e
      have e := ck_x e
      rw [nm_eq] at e
      have e := ck_x e
      rw [nm_eq] at e
      have e := ck_x e
      rw [nm_eq] at e
      have e := ck_x e
      rw [nm_eq] at e
      have e := ck_x e
      rw [nm_eq] at e
      rw [nm_eq] at e
      have i1 := ix_e a0 a5 p0 (show x3.toInt ≤ 64 by omega)
      have i2 := ix_e b0 b5 p0 (show x3.toInt ≤ 64 by omega)
      have s1 := ps_to (l := row) (i := (((32 : Int32) * x2) + x3)) i2 (show mm_ig row (((32 : Int32) * x1) + x3) = row.getD (32 * x1.toInt.toNat + x3.toInt.toNat) 0 by rw [ge_ig, i1])
      have s2 := ps_to (l := col) (i := (((32 : Int32) * x2) + x3)) i2 (show mm_ig col (((32 : Int32) * x1) + x3) = col.getD (32 * x1.toInt.toNat + x3.toInt.toNat) 0 by rw [ge_ig, i1])
      have s3 := ps_to (l := bel) (i := (((32 : Int32) * x2) + x3)) i2 (show mm_ig bel (((32 : Int32) * x1) + x3) = bel.getD (32 * x1.toInt.toNat + x3.toInt.toNat) 0 by rw [ge_ig, i1])
      have s4 := ps_to (l := fac) (i := (((32 : Int32) * x2) + x3)) i2 (show mm_ig fac (((32 : Int32) * x1) + x3) = fac.getD (32 * x1.toInt.toNat + x3.toInt.toNat) 0 by rw [ge_ig, i1])
      generalize hy : x3 + (1 : Int32) = y at e
      have ey := i_addE hy (by omega) (by omega)
      obtain ⟨row', col', bel', fac', q0, q1, q2, q3⟩ := ih y _ _ _ _ e (by omega) (by omega) (by rw [is_len]; exact l1) (by rw [is_len]; exact l2) (by rw [is_len]; exact l3) (by rw [is_len]; exact l4)
      refine ⟨row', col', bel', fac', q0, q1, fun j hj hk => ?_, fun k k0 k1 => ?_⟩
      · obtain ⟨u1, u2, u3, u4⟩ := q2 j hj (by omega)
        rw [u1, u2, u3, u4, ps_ne s1 (by omega) (by omega), ps_ne s2 (by omega) (by omega), ps_ne s3 (by omega) (by omega), ps_ne s4 (by omega) (by omega)]
        exact ⟨rfl, rfl, rfl, rfl⟩
      · by_cases g : x3.toInt.toNat = k
        · obtain ⟨u1, u2, u3, u4⟩ := q2 (32 * x2.toInt.toNat + k) (by omega) (by omega)
          rw [← g] at u1 u2 u3 u4 ⊢
          rw [u1, u2, u3, u4, ps_at s1 (by omega), ps_at s2 (by omega), ps_at s3 (by omega), ps_at s4 (by omega)]
          exact ⟨rfl, rfl, rfl, rfl⟩
        · obtain ⟨u1, u2, u3, u4⟩ := q3 k (by omega) k1
          rw [u1, u2, u3, u4, ps_ne s1 (by omega) (by omega), ps_ne s2 (by omega) (by omega), ps_ne s3 (by omega) (by omega), ps_ne s4 (by omega) (by omega)]
          exact ⟨rfl, rfl, rfl, rfl⟩
theorem co_e {x1 x2 : Int32} {sR sC row col bel fac wo la sR' sC' row' col' bel' fac' wo' la' : List Int32} (a0 : 0 ≤ x1.toInt) (a5 : x1.toInt ≤ 5) (b0 : 0 ≤ x2.toInt) (b5 : x2.toInt ≤ 5) (ab : x1.toInt ≠ x2.toInt) (l1 : row.length = 192) (l2 : col.length = 192) (l3 : bel.length = 192) (l4 : fac.length = 192) (l5 : wo.length = 384) (l6 : la.length = 384) (e : fX9_copies 700 x1 x2 sR sC row col bel fac wo la = some (sR', sC', row', col', bel', fac', wo', la')) : (sR' = mm_is sR x2 (mm_ig sR x1) ∧ sC' = mm_is sC x2 (mm_ig sC x1)) ∧ fq_w (32 * x2.toInt.toNat) 32 row col bel fac row' col' bel' fac' ∧ fc_w (64 * x2.toInt.toNat) wo la wo' la' ∧ (∀ k : Nat, k < 32 → row'.getD (32 * x2.toInt.toNat + k) 0 = row.getD (32 * x1.toInt.toNat + k) 0 ∧ col'.getD (32 * x2.toInt.toNat + k) 0 = col.getD (32 * x1.toInt.toNat + k) 0 ∧ bel'.getD (32 * x2.toInt.toNat + k) 0 = bel.getD (32 * x1.toInt.toNat + k) 0 ∧ fac'.getD (32 * x2.toInt.toNat + k) 0 = fac.getD (32 * x1.toInt.toNat + k) 0) ∧ (∀ k : Nat, k < 64 → wo'.getD (64 * x2.toInt.toNat + k) 0 = wo.getD (64 * x1.toInt.toNat + k) 0 ∧ la'.getD (64 * x2.toInt.toNat + k) 0 = la.getD (64 * x1.toInt.toNat + k) 0) := by
  have n0 : (0 : Int32).toInt = 0 := by decide
  unfold fX9_copies at e
  have e := ck_x e
  rw [nm_eq] at e
  have e := ck_x e
  rw [nm_eq] at e
  have e := ck_x e
  rw [nm_eq] at e
  have e := ck_x e
  rw [nm_eq] at e
  obtain ⟨row1, col1, bel1, fac1, e, q1, q2, q3⟩ := co_26 a0 a5 b0 b5 ab 700 (0 : Int32) row col bel fac e (by omega) (by omega) l1 l2 l3 l4
  obtain ⟨⟨u1, u2, u3, u4, u5, u6, u7, u8⟩, v2, v3⟩ := co_128 a0 a5 b0 b5 ab 700 (0 : Int32) wo la sR' sC' row' col' bel' fac' wo' la' e (by omega) (by omega) l5 l6
  subst u3 u4 u5 u6
  exact ⟨⟨u1, u2⟩, fun j hj hk => q2 j hj (by omega), fun j hj hk => v2 j hj (by omega), fun k hk => q3 k (by omega) hk, fun k hk => v3 k (by omega) hk⟩
theorem sa_7 {x1 ro co : Int32} {sR sC row col bel fac : List Int32} (b0 : 1 ≤ x1.toInt) (b5 : x1.toInt ≤ 5) : ∀ (n : Nat) (x2 : Int32) (wo la sR' sC' row' col' bel' fac' wo' la' : List Int32), fX9_startsAt_7 700 n x1 x2 ro co sR sC row col bel fac wo la = some (sR', sC', row', col', bel', fac', wo', la') → 0 ≤ x2.toInt → x2.toInt ≤ 64 → wo.length = 384 → la.length = 384 → (sR' = sR ∧ sC' = sC ∧ row' = row ∧ col' = col ∧ bel' = bel ∧ fac' = fac ∧ wo'.length = 384 ∧ la'.length = 384) ∧ (∀ j : Nat, j < 384 → (j < 64 * x1.toInt.toNat + x2.toInt.toNat ∨ 64 * x1.toInt.toNat + 64 ≤ j) → wo'.getD j 0 = wo.getD j 0 ∧ la'.getD j 0 = la.getD j 0) ∧ (∀ k : Nat, x2.toInt.toNat ≤ k → k < 64 → wo'.getD (64 * x1.toInt.toNat + k) 0 = wo.getD k 0 ∧ la'.getD (64 * x1.toInt.toNat + k) 0 = la.getD k 0) := by
  have n1 : (1 : Int32).toInt = 1 := by decide
  have n64 : (64 : Int32).toInt = 64 := by decide
  intro n
  induction n with
  | zero =>
    intro x2 wo la sR' sC' row' col' bel' fac' wo' la' e
    exact absurd e (by intro h; cases h)
  | succ n ih =>
    intro x2 wo la sR' sC' row' col' bel' fac' wo' la' e p0 p1 l1 l2
    rw [uf_X9_startsAt_7] at e
    by_cases c : (64 : Int32) ≤ x2
    · rw [if_pos c] at e
      have d := i_le c
      have e := sm_i e
      injection e with e1 e
      injection e with e2 e
      injection e with e3 e
      injection e with e4 e
      injection e with e5 e
      injection e with e6 e
      injection e with e7 e8
      subst e1 e2 e3 e4 e5 e6 e7 e8
      exact ⟨⟨rfl, rfl, rfl, rfl, rfl, rfl, l1, l2⟩, fun j _ _ => ⟨rfl, rfl⟩, fun k k0 k1 => absurd k1 (by omega)⟩
    · rw [if_neg c] at e
      have d := i_nle c
      have e := ck_x e
      rw [nm_eq] at e
      have e := ck_x e
      rw [nm_eq] at e
      have e := ck_x e
      rw [nm_eq] at e
      have e := ck_x e
      rw [nm_eq] at e
      rw [nm_eq] at e
      have i2 := iy_e (show 0 ≤ x1.toInt by omega) b5 p0 p1
      have s1 := ps_to (l := wo) (i := (((64 : Int32) * x1) + x2)) i2 (show mm_ig wo x2 = wo.getD x2.toInt.toNat 0 from rfl)
      have s2 := ps_to (l := la) (i := (((64 : Int32) * x1) + x2)) i2 (show mm_ig la x2 = la.getD x2.toInt.toNat 0 from rfl)
      generalize hy : x2 + (1 : Int32) = y at e
      have ey := i_addE hy (by omega) (by omega)
      obtain ⟨q1, q2, q3⟩ := ih y _ _ sR' sC' row' col' bel' fac' wo' la' e (by omega) (by omega) (by rw [is_len]; exact l1) (by rw [is_len]; exact l2)
      refine ⟨q1, fun j hj hk => ?_, fun k k0 k1 => ?_⟩
      · obtain ⟨u1, u2⟩ := q2 j hj (by omega)
        rw [u1, u2, ps_ne s1 (by omega) (by omega), ps_ne s2 (by omega) (by omega)]
        exact ⟨rfl, rfl⟩
      · by_cases g : x2.toInt.toNat = k
        · obtain ⟨u1, u2⟩ := q2 (64 * x1.toInt.toNat + k) (by omega) (by omega)
          rw [← g] at u1 u2 ⊢
          rw [u1, u2, ps_at s1 (by omega), ps_at s2 (by omega)]
          exact ⟨rfl, rfl⟩
        · obtain ⟨u1, u2⟩ := q3 k (by omega) k1
          rw [u1, u2, ps_ne s1 (by omega) (by omega), ps_ne s2 (by omega) (by omega)]
          exact ⟨rfl, rfl⟩
theorem sa_r {x1 ro co : Int32} {sR sC row col bel fac wo la sR' sC' row' col' bel' fac' wo' la' : List Int32} {m : Nat} (hm : (ro * co).toInt = m) (m32 : m ≤ 32) (c0 : 1 ≤ co.toInt) (c8 : co.toInt ≤ 8) (b0 : 1 ≤ x1.toInt) (b5 : x1.toInt ≤ 5) (l1 : row.length = 192) (l2 : col.length = 192) (l3 : bel.length = 192) (l4 : fac.length = 192) (l5 : wo.length = 384) (l6 : la.length = 384) (e : fX9_startsAt 700 x1 ro co sR sC row col bel fac wo la = some (sR', sC', row', col', bel', fac', wo', la')) : (sR' = mm_is sR x1 ro ∧ sC' = mm_is sC x1 co ∧ row'.length = 192 ∧ col'.length = 192 ∧ bel'.length = 192 ∧ fac'.length = 192 ∧ wo'.length = 384 ∧ la'.length = 384) ∧ fq_w (32 * x1.toInt.toNat) m row col bel fac row' col' bel' fac' ∧ fl_w m co.toInt (32 * x1.toInt.toNat) row' col' bel' fac' ∧ fc_w (64 * x1.toInt.toNat) wo la wo' la' ∧ (∀ k : Nat, k < 64 → wo'.getD (64 * x1.toInt.toNat + k) 0 = wo.getD k 0 ∧ la'.getD (64 * x1.toInt.toNat + k) 0 = la.getD k 0) := by
  have n0 : (0 : Int32).toInt = 0 := by decide
  unfold fX9_startsAt at e
  obtain ⟨w1, w2, w3, w4, w5, w6, e1, e⟩ := mm_bd6s e
  obtain ⟨q1, q2, ⟨q3, q4, q5, q6⟩, q7, q8⟩ := li_e hm m32 c0 c8 (by omega) b5 l1 l2 l3 l4 e1
  obtain ⟨⟨u1, u2, u3, u4, u5, u6, u7, u8⟩, v2, v3⟩ := sa_7 b0 b5 700 (0 : Int32) wo la sR' sC' row' col' bel' fac' wo' la' e (by omega) (by omega) l5 l6
  subst u1 u2 u3 u4 u5 u6
  exact ⟨⟨q1, q2, q3, q4, q5, q6, u7, u8⟩, q7, q8, fun j hj hk => v2 j hj (by omega), fun k hk => v3 k (by omega) hk⟩
theorem cp_e {v_rows v_cols v_high v_wide v_folds v_wrong v_more p_rows p_cols p_high p_wide p_folds p_wrong p_more : Int32} {R C B F W A R' C' B' F' W' A' : List Int32} (l1 : R.length = 32) (l2 : C.length = 32) (l3 : B.length = 32) (l4 : F.length = 32) (l5 : W.length = 64) (l6 : A.length = 64) (k1 : R'.length = 32) (k2 : C'.length = 32) (k3 : B'.length = 32) (k4 : F'.length = 32) (k5 : W'.length = 64) (k6 : A'.length = 64) : fX5_copy 700 v_rows v_cols v_high v_wide v_folds v_wrong v_more R C B F W A p_rows p_cols p_high p_wide p_folds p_wrong p_more R' C' B' F' W' A' = some (p_rows, p_cols, p_high, p_wide, p_folds, p_wrong, p_more, R', C', B', F', W', A') := by
  have n0 : (0 : Int32).toInt = 0 := by decide
  have n32 : (32 : Int32).toInt = 32 := by decide
  have n64 : (64 : Int32).toInt = 64 := by decide
  unfold fX5_copy
  rw [ck_t (i_cok (by omega) (by omega) (by omega) (by omega) (by omega)), nm_eq, ck_t (i_cok (by omega) (by omega) (by omega) (by omega) (by omega)), nm_eq, ck_t (i_cok (by omega) (by omega) (by omega) (by omega) (by omega)), nm_eq, ck_t (i_cok (by omega) (by omega) (by omega) (by omega) (by omega)), nm_eq, ck_t (i_cok (by omega) (by omega) (by omega) (by omega) (by omega)), nm_eq, ck_t (i_cok (by omega) (by omega) (by omega) (by omega) (by omega)), nm_eq, cp_all k1 l1 n32, cp_all k2 l2 n32, cp_all k3 l3 n32, cp_all k4 l4 n32, cp_all k5 l5 n64, cp_all k6 l6 n64]
end
section
/-! Geometry: fold -/
theorem ba_12 {x1 x2 x5 rows cols hg wd folds : Int32} {R C B F bend T : List Int32} {sc : Int32} {stp : List Int32} {r h' w' fo' wr' mo' : Int32} {R' C' B' F' wo' la' be' T' : List Int32} {sk' : Int32} {st' : List Int32} : ∀ (n : Nat) (x6 wrong more : Int32) (worn last : List Int32) (sk : Int32) (st : List Int32), fX5_bendAndTurn_12 700 n x1 x2 x5 x6 rows cols hg wd folds wrong more R C B F worn last bend T sc sk stp st = some (r, h', w', fo', wr', mo', R', C', B', F', wo', la', be', T', sk', st') → r = x5 ∧ fo' = folds + (1 : Int32) ∧ fX5_turn 700 x1 x2 rows cols hg wd R C B F T = some (h', w', R', C', B', F', T') := by
  intro n
  induction n with
  | zero =>
    intro x6 wrong more worn last sk st e
    exact absurd e (by intro h; cases h)
  | succ n ih =>
    intro x6 wrong more worn last sk st e
    rw [uf_X5_bendAndTurn_12] at e
    obtain ⟨fl, ef, e⟩ := mm_bd1s e
    by_cases c : ((2 : Int32) * fl) ≤ x6
    · rw [if_pos c] at e
      obtain ⟨w7, w8, w9, w10, w11, w12, w13, et, e⟩ := mm_bd7s e
      rw [nm_eq] at e
      apply mm_sub16 e
      exact ⟨rfl, rfl, et⟩
    · rw [if_neg c] at e
      have e := ck_x e
      by_cases g : mm_ig bend x6 = 0
      · rw [if_pos g, uf_X5_bendAndTurn_43, nm_eq] at e
        exact ih _ _ _ _ _ _ _ e
      · rw [if_neg g] at e
        obtain ⟨w18, w19, w20, w21, w22, w23, ew, e⟩ := mm_bd6s e
        rw [uf_X5_bendAndTurn_43, nm_eq] at e
        exact ih _ _ _ _ _ _ _ e
def ok_w (x1 x2 high wide : Int32) : Prop := (0 ≤ x2.toInt ∧ x2.toInt ≤ 7) ∧ 1 ≤ x1.toInt ∧ x1.toInt < (if (4 : Int32) ≤ x2 then high else wide).toInt
theorem wa_e (x : Int32) : fX8_isWay 700 x = some (decide (0 ≤ x.toInt ∧ x.toInt ≤ 7)) := by
  have n0 : (0 : Int32).toInt = 0 := by decide
  have n8 : (8 : Int32).toInt = 8 := by decide
  unfold fX8_isWay
  by_cases c : x < 0
  · have d := i_lt c
    rw [if_pos c, decide_eq_false (by omega)]
  · have d := i_nlt c
    rw [if_neg c]
    by_cases c2 : (8 : Int32) ≤ x
    · have d2 := i_le c2
      rw [if_pos c2, decide_eq_false (by omega)]
    · have d2 := i_nle c2
      rw [if_neg c2, decide_eq_true (by omega)]
theorem hl_e (x1 x2 high wide : Int32) : fX5_hasLine 700 x1 x2 high wide = some (decide (1 ≤ x1.toInt ∧ x1.toInt < (if (4 : Int32) ≤ x2 then high else wide).toInt)) := by
  have n1 : (1 : Int32).toInt = 1 := by decide
  have hs : fX5_span 700 x2 high wide = some (if (4 : Int32) ≤ x2 then high else wide) := by
    unfold fX5_span
    by_cases c : (4 : Int32) ≤ x2
    · rw [if_pos c, if_pos c]
    · rw [if_neg c, if_neg c]
  unfold fX5_hasLine
  rw [hs]
  generalize (if (4 : Int32) ≤ x2 then high else wide) = s
  by_cases c : x1 < (1 : Int32)
  · have d := i_lt c
    rw [if_pos c, decide_eq_false (by omega)]
  · have d := i_nlt c
    rw [if_neg c, bs_1]
    by_cases c2 : s ≤ x1
    · have d2 := i_le c2
      rw [if_pos c2, decide_eq_false (by omega)]
    · have d2 := i_nle c2
      rw [if_neg c2, decide_eq_true (by omega)]
theorem il_e {lv x1 x2 high wide : Int32} {sR sC : List Int32} (k8 : sR.length = 6) (k9 : sC.length = 6) (L0 : 0 ≤ lv.toInt) (L5 : lv.toInt ≤ 5) (g1 : mm_ig sR lv = high) (g2 : mm_ig sC lv = wide) (hh : 1 ≤ high.toInt ∧ high.toInt ≤ 4) (hw : 1 ≤ wide.toInt ∧ wide.toInt ≤ 8) : fX9_isLine 700 lv x1 x2 sR sC = some (decide (1 ≤ x1.toInt ∧ x1.toInt < (if (4 : Int32) ≤ x2 then high else wide).toInt)) := by
  have n1 : (1 : Int32).toInt = 1 := by decide
  have m1 : (1 : Int64).toInt = 1 := by decide
  unfold fX9_isLine
  by_cases c : (4 : Int32) ≤ x2
  · rw [if_pos c, if_pos c, ck_t (i_inb L0 (by omega)), g1]
    unfold fX9_isLine_23
    generalize hz : high - (1 : Int32) = z
    have ez := i_subE hz (by omega) (by omega)
    rw [wn_x, bs_1, i_64, i_64, m1]
    exact congrArg some (decide_eq_decide.mpr (by omega))
  · rw [if_neg c, if_neg c, ck_t (i_inb L0 (by omega)), g2]
    unfold fX9_isLine_23
    generalize hz : wide - (1 : Int32) = z
    have ez := i_subE hz (by omega) (by omega)
    rw [wn_x, bs_1, i_64, i_64, m1]
    exact congrArg some (decide_eq_decide.mpr (by omega))
theorem fo_8 {x1 x2 rows cols hg wd folds wrong more : Int32} {R C B F worn last bend T : List Int32} {sc sk : Int32} {stp st : List Int32} {lim : Int32} {r h' w' fo' wr' mo' : Int32} {R' C' B' F' wo' la' be' T' : List Int32} {sk' : Int32} {st' : List Int32} (e : fX8_fold 700 x1 x2 rows cols hg wd folds wrong more R C B F worn last bend T sc sk stp st lim = some (r, h', w', fo', wr', mo', R', C', B', F', wo', la', be', T', sk', st')) : (¬ ok_w x1 x2 hg wd ∧ h' = hg ∧ w' = wd ∧ fo' = folds ∧ R' = R ∧ C' = C ∧ B' = B ∧ F' = F) ∨ (ok_w x1 x2 hg wd ∧ fo' = folds + (1 : Int32) ∧ fX5_turn 700 x1 x2 rows cols hg wd R C B F T = some (h', w', R', C', B', F', T')) := by
  unfold fX8_fold at e
  rw [wa_e, bs_1] at e
  by_cases c : 0 ≤ x2.toInt ∧ x2.toInt ≤ 7
  · rw [decide_eq_true c, if_neg (by decide), hl_e, bs_1] at e
    by_cases d : 1 ≤ x1.toInt ∧ x1.toInt < (if (4 : Int32) ≤ x2 then hg else wd).toInt
    · rw [decide_eq_true d, if_neg (by decide)] at e
      obtain ⟨a0, a1, a2, a3, a4, a5, a6, a7, a8, a9, a10, a11, a12, a13, a14, a15, eb, e⟩ := mm_bd16s e
      apply mm_sub16 e
      unfold fX5_bendAndTurn at eb
      obtain ⟨b0, b1, em, eb⟩ := mm_bd2s eb
      obtain ⟨q1, q2, q3⟩ := ba_12 700 _ _ _ _ _ _ _ eb
      exact Or.inr ⟨⟨c, d⟩, q2, q3⟩
    · rw [decide_eq_false d, if_pos rfl] at e
      apply mm_sub16 e
      exact Or.inl ⟨fun h => d h.2, rfl, rfl, rfl, rfl, rfl, rfl, rfl⟩
  · rw [decide_eq_false c, if_pos rfl] at e
    apply mm_sub16 e
    exact Or.inl ⟨fun h => c h.1, rfl, rfl, rfl, rfl, rfl, rfl, rfl⟩
theorem fs_9 {lv x1 x2 ro co tm ba at_ en fa op bm bw mw : Int32} {lim sR sC row col bel fac wo la tape text nam ben hi to PS : List Int32} {ba' at' en' fa' op' bm' bw' mw' : Int32} {sR' sC' row' col' bel' fac' wo' la' nam' ben' hi' to' PS' : List Int32} (e : fX9_foldsOn 700 lv x1 x2 ro co tm ba at_ en fa op bm bw mw lim sR sC row col bel fac wo la tape text nam ben hi to PS = some (ba', at', en', fa', op', bm', bw', mw', sR', sC', row', col', bel', fac', wo', la', nam', ben', hi', to', PS')) : fX9_movesAll 700 lv x1 x2 ro co sR sC row col bel fac hi to PS = some (sR', sC', row', col', bel', fac', hi', to', PS') ∧ fX9_bendsAll 700 lv x1 x2 ro co tm ba at_ en fa op bm bw mw lim row col fac wo la tape text nam ben = some (ba', at', en', fa', op', bm', bw', mw', wo', la', nam', ben') := by
  unfold fX9_foldsOn at e
  obtain ⟨a0, a1, a2, a3, a4, a5, a6, a7, a8, a9, a10, a11, eb, e⟩ := mm_bd12s e
  obtain ⟨b0, b1, b2, b3, b4, b5, b6, b7, b8, em, e⟩ := mm_bd9s e
  apply mm_sub21 e
  exact ⟨em, eb⟩
theorem fo_9 {x1 x2 ro co fd wr tm ba at_ en fa op bm bw mw hg wd : Int32} {lim sR sC row col bel fac wo la tape text nam ben hi to PS : List Int32} {r fd' wr' ba' at' en' fa' op' bm' bw' mw' : Int32} {sR' sC' row' col' bel' fac' wo' la' nam' ben' hi' to' PS' : List Int32} (k8 : sR.length = 6) (k9 : sC.length = 6) (g1 : mm_ig sR (0 : Int32) = hg) (g2 : mm_ig sC (0 : Int32) = wd) (hh : 1 ≤ hg.toInt ∧ hg.toInt ≤ 4) (hw : 1 ≤ wd.toInt ∧ wd.toInt ≤ 8) (e : fX9_fold 700 x1 x2 ro co fd wr tm ba at_ en fa op bm bw mw lim sR sC row col bel fac wo la tape text nam ben hi to PS = some (r, fd', wr', ba', at', en', fa', op', bm', bw', mw', sR', sC', row', col', bel', fac', wo', la', nam', ben', hi', to', PS')) : (¬ ok_w x1 x2 hg wd ∧ fd' = fd ∧ sR' = sR ∧ sC' = sC ∧ row' = row ∧ col' = col ∧ bel' = bel ∧ fac' = fac) ∨ (ok_w x1 x2 hg wd ∧ fd' = fd + (1 : Int32) ∧ fX9_movesAll 700 (0 : Int32) x1 x2 ro co sR sC row col bel fac hi to PS = some (sR', sC', row', col', bel', fac', hi', to', PS')) := by
  have m0 : (0 : Int64).toInt = 0 := by decide
  have m7 : (7 : Int64).toInt = 7 := by decide
  unfold fX9_fold at e
  rw [wn_x, bs_1, i_64, m0, m7] at e
  by_cases c : 0 ≤ x2.toInt ∧ x2.toInt ≤ 7
  · rw [decide_eq_true c, if_neg (by decide), il_e k8 k9 (by decide) (by decide) g1 g2 hh hw, bs_1] at e
    by_cases d : 1 ≤ x1.toInt ∧ x1.toInt < (if (4 : Int32) ≤ x2 then hg else wd).toInt
    · rw [decide_eq_true d, if_neg (by decide)] at e
      obtain ⟨a0, a1, a2, a3, a4, a5, a6, a7, a8, a9, a10, a11, a12, a13, a14, a15, a16, a17, a18, a19, a20, eb, e⟩ := mm_bd21s e
      rw [nm_eq, nm_eq] at e
      apply mm_sub24 e
      exact Or.inr ⟨⟨c, d⟩, rfl, (fs_9 eb).1⟩
    · rw [decide_eq_false d, if_pos rfl] at e
      apply mm_sub24 e
      exact Or.inl ⟨fun h => d h.2, rfl, rfl, rfl, rfl, rfl, rfl, rfl⟩
  · rw [decide_eq_false c, if_pos rfl] at e
    apply mm_sub24 e
    exact Or.inl ⟨fun h => c h.1, rfl, rfl, rfl, rfl, rfl, rfl, rfl⟩
end
section
/-! Geometry: sheet -/
theorem dn_x {x : Int32} (hx : x.toInt < 0) : (x / (10 : Int32)).toInt ≤ 0 := by
  rw [Int32.toInt_div_of_ne_right x (10 : Int32) (by decide), show (10 : Int32).toInt = 10 by decide]
  have e : x.toInt = -(-x.toInt) := by omega
  rw [e, Int.neg_tdiv]
  have k : 0 ≤ (-x.toInt).tdiv 10 := Int.tdiv_nonneg (by omega) (by omega)
  omega
def os_w (a b : Int32) : Prop := (1 ≤ a.toInt ∧ a.toInt ≤ 4) ∧ (1 ≤ b.toInt ∧ b.toInt ≤ 8)
/-- creases all new -/
def zc_w (o : Nat) (W A : List Int32) : Prop := ∀ k : Nat, k < 64 → W.getD (o + k) 0 = 0 ∧ A.getD (o + k) 0 = 0
theorem rw_8 {x1 x2 rows cols hg wd folds wrong more rows' cols' h' w' fo' wr' mo' : Int32} {R C B F W A R' C' B' F' W' A' : List Int32} {m : Nat} (hm : x1.toInt * x2.toInt = m) (m32 : m ≤ 32) (o : os_w x1 x2) (l1 : R.length = 32) (l2 : C.length = 32) (l3 : B.length = 32) (l4 : F.length = 32) (l5 : W.length = 64) (l6 : A.length = 64) (e : fX5_renew 700 x1 x2 rows cols hg wd folds wrong more R C B F W A = some (rows', cols', h', w', fo', wr', mo', R', C', B', F', W', A')) : rows' = x1 ∧ cols' = x2 ∧ h' = x1 ∧ w' = x2 ∧ fo' = 0 ∧ wr' = 0 ∧ mo' = 0 ∧ fl_w m x2.toInt 0 R' C' B' F' ∧ zc_w 0 W' A' := by
  unfold fX5_renew at e
  obtain ⟨w1, e1, e⟩ := mm_bd1s e
  obtain ⟨w3, e3, e⟩ := mm_bd1s e
  obtain ⟨w5, w6, w7, e5, e⟩ := mm_bd3s e
  obtain ⟨w9, w10, w11, w12, w13, w14, e9, e⟩ := mm_bd6s e
  obtain ⟨a1, a2⟩ := fi_e e1 (by omega)
  obtain ⟨b1, b2⟩ := fi_e e3 (by omega)
  unfold fX5_forgetLed at e5
  obtain ⟨c1, c2, c3⟩ := lo_e hm m32 o.1.1 o.1.2 o.2.1 o.2.2 l1 l2 l3 l4 e9
  apply mm_sub13 e
  apply mm_sub3 e5
  refine ⟨rfl, rfl, c1, c2, rfl, rfl, rfl, c3, fun k hk => ?_⟩
  rw [Nat.zero_add]
  exact ⟨a2 k (by omega), b2 k (by omega)⟩
theorem st_8 {x1 rows cols hg wd folds wrong more r rows' cols' h' w' fo' wr' mo' : Int32} {R C B F W A R' C' B' F' W' A' : List Int32} (l1 : R.length = 32) (l2 : C.length = 32) (l3 : B.length = 32) (l4 : F.length = 32) (l5 : W.length = 64) (l6 : A.length = 64) (e : fX8_sheet 700 x1 rows cols hg wd folds wrong more R C B F W A = some (r, rows', cols', h', w', fo', wr', mo', R', C', B', F', W', A')) : (¬ os_w (x1 / (10 : Int32)) (mm_rem x1 (10 : Int32)) ∧ r = -1 ∧ rows' = rows ∧ cols' = cols ∧ h' = hg ∧ w' = wd ∧ fo' = folds ∧ wr' = wrong ∧ mo' = more ∧ R' = R ∧ C' = C ∧ B' = B ∧ F' = F ∧ W' = W ∧ A' = A) ∨ (os_w (x1 / (10 : Int32)) (mm_rem x1 (10 : Int32)) ∧ r = ((10 : Int32) * rows) + cols ∧ rows' = x1 / (10 : Int32) ∧ cols' = mm_rem x1 (10 : Int32) ∧ h' = x1 / (10 : Int32) ∧ w' = mm_rem x1 (10 : Int32) ∧ fo' = 0 ∧ wr' = 0 ∧ mo' = 0 ∧ fl_w ((x1 / (10 : Int32)).toInt * (mm_rem x1 (10 : Int32)).toInt).toNat (mm_rem x1 (10 : Int32)).toInt 0 R' C' B' F' ∧ zc_w 0 W' A') := by
  have n1 : (1 : Int32).toInt = 1 := by decide
  have n4 : (4 : Int32).toInt = 4 := by decide
  have n8 : (8 : Int32).toInt = 8 := by decide
  unfold fX8_sheet at e
  have e := ck_x e
  rw [nm_eq] at e
  have e := ck_x e
  rw [nm_eq] at e
  generalize x1 / (10 : Int32) = a at e ⊢
  generalize mm_rem x1 (10 : Int32) = b at e ⊢
  by_cases c1 : a < (1 : Int32)
  · have d1 := i_lt c1
    rw [if_pos c1] at e
    apply mm_sub14 e
    exact Or.inl ⟨fun h => absurd h.1.1 (by omega), rfl, rfl, rfl, rfl, rfl, rfl, rfl, rfl, rfl, rfl, rfl, rfl, rfl, rfl⟩
  · have d1 := i_nlt c1
    rw [if_neg c1] at e
    by_cases c2 : (4 : Int32) < a
    · have d2 := i_lt c2
      rw [if_pos c2] at e
      apply mm_sub14 e
      exact Or.inl ⟨fun h => absurd h.1.2 (by omega), rfl, rfl, rfl, rfl, rfl, rfl, rfl, rfl, rfl, rfl, rfl, rfl, rfl, rfl⟩
    · have d2 := i_nlt c2
      rw [if_neg c2] at e
      by_cases c3 : b < (1 : Int32)
      · have d3 := i_lt c3
        rw [if_pos c3] at e
        apply mm_sub14 e
        exact Or.inl ⟨fun h => absurd h.2.1 (by omega), rfl, rfl, rfl, rfl, rfl, rfl, rfl, rfl, rfl, rfl, rfl, rfl, rfl, rfl⟩
      · have d3 := i_nlt c3
        rw [if_neg c3] at e
        by_cases c4 : b ≤ (8 : Int32)
        · have d4 := i_le c4
          rw [if_pos c4, nm_eq] at e
          obtain ⟨w10, w11, w12, w13, w14, w15, w16, w17, w18, w19, w20, w21, w22, er, e⟩ := mm_bd13s e
          have o : os_w a b := ⟨⟨by omega, by omega⟩, by omega, by omega⟩
          have hf := i_fl o.1.1 o.1.2 o.2.1 o.2.2
          obtain ⟨q1, q2, q3, q4, q5, q6, q7, q8, q9⟩ := rw_8 (m := (a.toInt * b.toInt).toNat) (by omega) (by omega) o l1 l2 l3 l4 l5 l6 er
          apply mm_sub14 e
          exact Or.inr ⟨o, rfl, q1, q2, q3, q4, q5, q6, q7, q8, q9⟩
        · have d4 := i_nle c4
          rw [if_neg c4] at e
          apply mm_sub14 e
          exact Or.inl ⟨fun h => absurd h.2.2 (by omega), rfl, rfl, rfl, rfl, rfl, rfl, rfl, rfl, rfl, rfl, rfl, rfl, rfl, rfl⟩
theorem in_17 {ro co fd wr : Int32} {sR sC row col bel fac : List Int32} : ∀ (n : Nat) (x3 : Int32) (wo la : List Int32) (ro' co' fd' wr' : Int32) (sR' sC' row' col' bel' fac' wo' la' : List Int32), fX9_isNew_17 700 n x3 ro co fd wr sR sC row col bel fac wo la = some (ro', co', fd', wr', sR', sC', row', col', bel', fac', wo', la') → 0 ≤ x3.toInt → x3.toInt ≤ 64 → wo.length = 384 → la.length = 384 → (∀ k : Nat, k < x3.toInt.toNat → wo.getD k 0 = 0 ∧ la.getD k 0 = 0) → (ro' = ro ∧ co' = co ∧ fd' = 0 ∧ wr' = 0 ∧ sR' = sR ∧ sC' = sC ∧ row' = row ∧ col' = col ∧ bel' = bel ∧ fac' = fac) ∧ zc_w 0 wo' la' ∧ (∀ j : Nat, j < 384 → 64 ≤ j → wo'.getD j 0 = wo.getD j 0 ∧ la'.getD j 0 = la.getD j 0) := by
  have n1 : (1 : Int32).toInt = 1 := by decide
  have n64 : (64 : Int32).toInt = 64 := by decide
  intro n
  induction n with
  | zero =>
    intro x3 wo la ro' co' fd' wr' sR' sC' row' col' bel' fac' wo' la' e
    exact absurd e (by intro h; cases h)
  | succ n ih =>
    intro x3 wo la ro' co' fd' wr' sR' sC' row' col' bel' fac' wo' la' e p0 p1 l1 l2 H
    rw [uf_X9_isNew_17] at e
    by_cases c : (64 : Int32) ≤ x3
    · rw [if_pos c] at e
      have d := i_le c
      apply mm_sub12 e
      refine ⟨⟨rfl, rfl, rfl, rfl, rfl, rfl, rfl, rfl, rfl, rfl⟩, fun k hk => ?_, fun j _ _ => ⟨rfl, rfl⟩⟩
      rw [Nat.zero_add]
      exact H k (by omega)
    · rw [if_neg c] at e
      have d := i_nle c
      have e := ck_x e
      rw [nm_eq] at e
      have e := ck_x e
      rw [nm_eq, nm_eq] at e
      have s1 := ps_is wo x3 (0 : Int32)
      have s2 := ps_is la x3 (0 : Int32)
      generalize hy : x3 + (1 : Int32) = y at e
      have ey := i_addE hy (by omega) (by omega)
      obtain ⟨q1, q2, q3⟩ := ih y _ _ ro' co' fd' wr' sR' sC' row' col' bel' fac' wo' la' e (by omega) (by omega) (by rw [is_len]; exact l1) (by rw [is_len]; exact l2) (fun k hk => by
        by_cases g : x3.toInt.toNat = k
        · rw [← g, ps_at s1 (by omega), ps_at s2 (by omega)]
          exact ⟨rfl, rfl⟩
        · rw [ps_ne s1 (by omega) g, ps_ne s2 (by omega) g]
          exact H k (by omega))
      refine ⟨q1, q2, fun j hj hk => ?_⟩
      obtain ⟨u1, u2⟩ := q3 j hj hk
      rw [u1, u2, ps_ne s1 (by omega) (by omega), ps_ne s2 (by omega) (by omega)]
      exact ⟨rfl, rfl⟩
theorem st_9 {x1 ro co fd wr r ro' co' fd' wr' : Int32} {sR sC row col bel fac wo la sR' sC' row' col' bel' fac' wo' la' : List Int32} (l1 : row.length = 192) (l2 : col.length = 192) (l3 : bel.length = 192) (l4 : fac.length = 192) (l5 : wo.length = 384) (l6 : la.length = 384) (e : fX9_sheet 700 x1 ro co fd wr sR sC row col bel fac wo la = some (r, ro', co', fd', wr', sR', sC', row', col', bel', fac', wo', la')) : (¬ os_w (x1 / (10 : Int32)) (mm_rem x1 (10 : Int32)) ∧ r = -1 ∧ ro' = ro ∧ co' = co ∧ fd' = fd ∧ wr' = wr ∧ sR' = sR ∧ sC' = sC ∧ row' = row ∧ col' = col ∧ bel' = bel ∧ fac' = fac ∧ wo' = wo ∧ la' = la) ∨ (os_w (x1 / (10 : Int32)) (mm_rem x1 (10 : Int32)) ∧ r = ((10 : Int32) * ro) + co ∧ ro' = x1 / (10 : Int32) ∧ co' = mm_rem x1 (10 : Int32) ∧ fd' = 0 ∧ wr' = 0 ∧ sR' = mm_is sR (0 : Int32) (x1 / (10 : Int32)) ∧ sC' = mm_is sC (0 : Int32) (mm_rem x1 (10 : Int32)) ∧ fq_w 0 32 row col bel fac row' col' bel' fac' ∧ fl_w ((x1 / (10 : Int32)).toInt * (mm_rem x1 (10 : Int32)).toInt).toNat (mm_rem x1 (10 : Int32)).toInt 0 row' col' bel' fac' ∧ zc_w 0 wo' la' ∧ (∀ j : Nat, j < 384 → 64 ≤ j → wo'.getD j 0 = wo.getD j 0 ∧ la'.getD j 0 = la.getD j 0)) := by
  have n0 : (0 : Int32).toInt = 0 := by decide
  have z0 : (0 : Int32).toInt.toNat = 0 := by decide
  have m1 : (1 : Int64).toInt = 1 := by decide
  have m4 : (4 : Int64).toInt = 4 := by decide
  have m8 : (8 : Int64).toInt = 8 := by decide
  unfold fX9_sheet at e
  by_cases c : x1 < 0
  · have d := i_lt c
    have dn := dn_x (show x1.toInt < 0 by omega)
    rw [if_pos c] at e
    apply mm_sub13 e
    exact Or.inl ⟨fun h => absurd h.1.1 (by omega), rfl, rfl, rfl, rfl, rfl, rfl, rfl, rfl, rfl, rfl, rfl, rfl, rfl⟩
  · rw [if_neg c] at e
    have e := ck_x e
    rw [wn_x, bs_1, i_64, m1, m4] at e
    generalize x1 / (10 : Int32) = a at e ⊢
    generalize mm_rem x1 (10 : Int32) = b at e ⊢
    by_cases c1 : 1 ≤ a.toInt ∧ a.toInt ≤ 4
    · rw [decide_eq_true c1, if_neg (by decide)] at e
      have e := ck_x e
      rw [wn_x, bs_1, i_64, m1, m8] at e
      by_cases c2 : 1 ≤ b.toInt ∧ b.toInt ≤ 8
      · rw [decide_eq_true c2, if_neg (by decide), nm_eq] at e
        have e := ck_x (ck_x e)
        obtain ⟨w13, w14, w15, w16, w17, w18, w19, w20, w21, w22, w23, w24, en, e⟩ := mm_bd12s e
        apply mm_sub13 e
        unfold fX9_isNew at en
        obtain ⟨u1, u2, u3, u4, u5, u6, el, en⟩ := mm_bd6s en
        have hf := i_fl c1.1 c1.2 c2.1 c2.2
        obtain ⟨q1, q2, ⟨q3, q4, q5, q6⟩, q7, q8⟩ := li_e (m := (a.toInt * b.toInt).toNat) (by omega) (by omega) c2.1 c2.2 (by omega) (by omega) l1 l2 l3 l4 el
        obtain ⟨⟨v1, v2, v3, v4, v5, v6, v7, v8, v9, v10⟩, v11, v12⟩ := in_17 700 (0 : Int32) wo la _ _ _ _ _ _ _ _ _ _ _ _ en (by omega) (by omega) l5 l6 (fun k hk => absurd hk (by omega))
        rw [z0, Nat.mul_zero] at q7 q8
        subst v5 v6 v7 v8 v9 v10
        exact Or.inr ⟨⟨c1, c2⟩, rfl, v1, v2, v3, v4, q1, q2, fun j hj hk => q7 j hj (by omega), q8, v11, v12⟩
      · rw [decide_eq_false c2, if_pos rfl] at e
        apply mm_sub13 e
        exact Or.inl ⟨fun h => c2 h.2, rfl, rfl, rfl, rfl, rfl, rfl, rfl, rfl, rfl, rfl, rfl, rfl, rfl⟩
    · rw [decide_eq_false c1, if_pos rfl] at e
      apply mm_sub13 e
      exact Or.inl ⟨fun h => c1 h.1, rfl, rfl, rfl, rfl, rfl, rfl, rfl, rfl, rfl, rfl, rfl, rfl, rfl⟩
end
section
/-! Geometry: the relation of class and reference -/
theorem fr_n {l l' : List Int32} {a b : Int} (h : fr l l' a b) (hl : l.length ≤ 1000) {k : Nat} (hk : k < l.length) (ho : (k : Int) < a ∨ b ≤ (k : Int)) : l'.getD k 0 = l.getD k 0 := by
  have e : (Int32.ofNat k).toInt = (k : Int) := Int32.toInt_ofNat_of_lt (by omega)
  have q := h.2 (Int32.ofNat k) (by omega) (by omega) (by omega)
  rw [ge_ig, ge_ig, e, Int.toNat_natCast] at q
  exact q
theorem zn_n {l : List Int32} {b lo hi : Int} (h : zn l 0 b lo hi) (hl : l.length ≤ 1000) {k : Nat} (hk : k < l.length) (hb : (k : Int) < b) : lo ≤ (l.getD k 0).toInt ∧ (l.getD k 0).toInt < hi := by
  have e : (Int32.ofNat k).toInt = (k : Int) := Int32.toInt_ofNat_of_lt (by omega)
  have q := h (Int32.ofNat k) (by omega) (by omega) (by omega) (by omega)
  rw [ge_ig, e, Int.toNat_natCast] at q
  exact q
/-- a sheet of the class and a level of the reference alike, by where the fields lie -/
def lg_w (lv : Nat) (rows cols high wide : Int32) (R C B F sR sC row col bel fac : List Int32) : Prop := sR.getD lv 0 = high ∧ sC.getD lv 0 = wide ∧ gx_w (rows.toInt * cols.toInt).toNat (32 * lv) R C B F row col bel fac
theorem lg_t {lv : Nat} {rows cols high wide : Int32} {R C B F sR sC row col bel fac sR' sC' row' col' bel' fac' : List Int32} (h : lg_w lv rows cols high wide R C B F sR sC row col bel fac) (m32 : rows.toInt * cols.toInt ≤ 32) (h1 : sR'.getD lv 0 = sR.getD lv 0) (h2 : sC'.getD lv 0 = sC.getD lv 0) (h3 : ∀ j : Nat, 32 * lv ≤ j → j < 32 * lv + 32 → row'.getD j 0 = row.getD j 0 ∧ col'.getD j 0 = col.getD j 0 ∧ bel'.getD j 0 = bel.getD j 0 ∧ fac'.getD j 0 = fac.getD j 0) : lg_w lv rows cols high wide R C B F sR' sC' row' col' bel' fac' := by
  obtain ⟨a1, a2, a3⟩ := h
  refine ⟨by rw [h1, a1], by rw [h2, a2], fun k hk => ?_⟩
  obtain ⟨b1, b2, b3, b4⟩ := h3 (32 * lv + k) (by omega) (by omega)
  obtain ⟨c1, c2, c3, c4⟩ := a3 k hk
  exact ⟨by rw [b1, c1], by rw [b2, c2], by rw [b3, c3], by rw [b4, c4]⟩
/-- the six rows of the levels 1 to 4 written, the others as they were -/
def f6_w (sR sC row col bel fac sR' sC' row' col' bel' fac' : List Int32) : Prop := fr sR sR' 1 5 ∧ fr sC sC' 1 5 ∧ fr row row' 32 160 ∧ fr col col' 32 160 ∧ fr bel bel' 32 160 ∧ fr fac fac' 32 160
theorem lg_6 {lv : Nat} {rows cols high wide : Int32} {R C B F sR sC row col bel fac sR' sC' row' col' bel' fac' : List Int32} (hl : lv = 0 ∨ lv = 5) (k1 : sR.length = 6) (k2 : sC.length = 6) (k3 : row.length = 192) (k4 : col.length = 192) (k5 : bel.length = 192) (k6 : fac.length = 192) (m32 : rows.toInt * cols.toInt ≤ 32) (f : f6_w sR sC row col bel fac sR' sC' row' col' bel' fac') (h : lg_w lv rows cols high wide R C B F sR sC row col bel fac) : lg_w lv rows cols high wide R C B F sR' sC' row' col' bel' fac' := by
  obtain ⟨f1, f2, f3, f4, f5, f6⟩ := f
  refine lg_t h m32 (fr_n f1 (by omega) (by omega) (by omega)) (fr_n f2 (by omega) (by omega) (by omega)) (fun j j0 j1 => ?_)
  exact ⟨fr_n f3 (by omega) (by omega) (by omega), fr_n f4 (by omega) (by omega) (by omega), fr_n f5 (by omega) (by omega) (by omega), fr_n f6 (by omega) (by omega) (by omega)⟩
def rl_ge (v_now_rows : Int32) (v_now_cols : Int32) (v_now_high : Int32) (v_now_wide : Int32) (v_now_folds : Int32) (v_now_rowOf : List Int32) (v_now_colOf : List Int32) (v_now_below : List Int32) (v_now_face : List Int32) (v_hasImage : Bool) (v_kept_rows : Int32) (v_kept_cols : Int32) (v_kept_high : Int32) (v_kept_wide : Int32) (v_kept_folds : Int32) (v_kept_rowOf : List Int32) (v_kept_colOf : List Int32) (v_kept_below : List Int32) (v_kept_face : List Int32) (m_rowsOf : Int32) (m_columnsOf : Int32) (m_folded : Int32) (m_isKept : Bool) (m_imageRows : Int32) (m_imageColumns : Int32) (m_imageFolded : Int32) (m_shapeRows : List Int32) (m_shapeColumns : List Int32) (m_row : List Int32) (m_column : List Int32) (m_below : List Int32) (m_face : List Int32) : Prop := m_rowsOf = v_now_rows ∧ m_columnsOf = v_now_cols ∧ m_folded = v_now_folds ∧ m_isKept = v_hasImage ∧ lg_w 0 v_now_rows v_now_cols v_now_high v_now_wide v_now_rowOf v_now_colOf v_now_below v_now_face m_shapeRows m_shapeColumns m_row m_column m_below m_face ∧ (v_hasImage = true → m_imageRows = v_kept_rows ∧ m_imageColumns = v_kept_cols ∧ m_imageFolded = v_kept_folds ∧ lg_w 5 v_kept_rows v_kept_cols v_kept_high v_kept_wide v_kept_rowOf v_kept_colOf v_kept_below v_kept_face m_shapeRows m_shapeColumns m_row m_column m_below m_face)
def gx_b (m o : Nat) (R C B F row col bel fac : List Int32) : Bool := (List.range m).all (fun k => decide (row.getD (o + k) 0 = R.getD k 0 ∧ col.getD (o + k) 0 = C.getD k 0 ∧ bel.getD (o + k) 0 = B.getD k 0 ∧ fac.getD (o + k) 0 = F.getD k 0))
theorem gx_of {m o : Nat} {R C B F row col bel fac : List Int32} (h : gx_b m o R C B F row col bel fac = true) : gx_w m o R C B F row col bel fac := fun k hk => of_decide_eq_true (List.all_eq_true.mp h k (List.mem_range.mpr hk))
theorem nw_ge : rl_ge 2 4 2 4 0 z5_rowOf z5_colOf (mm_zs 32) (mm_zs 32) false 2 4 2 4 0 z5_rowOf z5_colOf (mm_zs 32) (mm_zs 32) 2 4 0 false 0 0 0 z9_shapeRows z9_shapeColumns z9_row z9_column (mm_zs 192) (mm_zs 192) := ⟨rfl, rfl, rfl, rfl, ⟨by decide +kernel, by decide +kernel, gx_of (by decide +kernel)⟩, fun h => absurd h (by decide)⟩
end
section
/-! Frames of the calls that work on levels 1 to 4 -/
set_option maxHeartbeats 4000000 in
set_option maxRecDepth 20000 in
theorem sg9_cost {x1 : Int32} {v_rowsOf : Int32} {v_columnsOf : Int32} {v_textMany : Int32} {v_base : Int32} {v_at : Int32} {v_ends : Int32} {v_fault : Int32} {v_opened : Int32} {v_bentMany : Int32} {v_bentWrong : Int32} {v_moreWorn : Int32} {v_planned : Int32} {v_allWrong : Int32} {v_allWorn : Int32} {v_z : Int32} {v_limit : List Int32} {v_shapeRows : List Int32} {v_shapeColumns : List Int32} {v_row : List Int32} {v_column : List Int32} {v_below : List Int32} {v_face : List Int32} {v_worn : List Int32} {v_lastBend : List Int32} {v_tape : List Int32} {v_text : List Int32} {v_names : List Int32} {v_bends : List Int32} {v_high : List Int32} {v_to : List Int32} {v_pileSize : List Int32} {v_planLine : List Int32} {v_planWay : List Int32} {v_keptMany : Int32} {v_done : Int32} {v_changeWas : List Int32} {v_changeIs : List Int32} {v_isKept : Bool} {v_imageRows : Int32} {v_imageColumns : Int32} {v_tapeMany : Int32} (g_0 : gm_ch v_keptMany v_done v_limit v_changeWas v_changeIs) (g_1 : gm_sh v_rowsOf v_columnsOf v_isKept v_imageRows v_imageColumns v_shapeRows v_shapeColumns v_row v_column v_below v_face v_worn v_lastBend) (g_2 : gm_tx v_tapeMany v_textMany v_tape v_text v_names v_bends v_high v_to v_pileSize) (g_3 : gm_pl v_planned v_planLine v_planWay) : wp (fX9_cost 700 x1 v_rowsOf v_columnsOf v_textMany v_base v_at v_ends v_fault v_opened v_bentMany v_bentWrong v_moreWorn v_planned v_allWrong v_allWorn v_z v_limit v_shapeRows v_shapeColumns v_row v_column v_below v_face v_worn v_lastBend v_tape v_text v_names v_bends v_high v_to v_pileSize v_planLine v_planWay) (cu25 (fun (r : Int32) (wv_base : Int32) (wv_at : Int32) (wv_ends : Int32) (wv_fault : Int32) (wv_opened : Int32) (wv_bentMany : Int32) (wv_bentWrong : Int32) (wv_moreWorn : Int32) (wv_allWrong : Int32) (wv_allWorn : Int32) (wv_z : Int32) (wv_shapeRows : List Int32) (wv_shapeColumns : List Int32) (wv_row : List Int32) (wv_column : List Int32) (wv_below : List Int32) (wv_face : List Int32) (wv_worn : List Int32) (wv_lastBend : List Int32) (wv_names : List Int32) (wv_bends : List Int32) (wv_high : List Int32) (wv_to : List Int32) (wv_pileSize : List Int32) => f6_w v_shapeRows v_shapeColumns v_row v_column v_below v_face wv_shapeRows wv_shapeColumns wv_row wv_column wv_below wv_face ∧ fr v_worn wv_worn 64 320 ∧ fr v_lastBend wv_lastBend 64 320)) := by
  obtain ⟨a_0_0, a_0_1, a_0_2, a_0_3, a_0_4, a_0_5, a_0_6, a_0_7⟩ := id g_0
  obtain ⟨a_1_0, a_1_1, a_1_2, a_1_3, a_1_4, a_1_5, a_1_6, a_1_7, a_1_8, a_1_9, a_1_10, a_1_11, a_1_12, a_1_13⟩ := id g_1
  obtain ⟨a_2_0, a_2_1, a_2_2, a_2_3, a_2_4, a_2_5, a_2_6, a_2_7, a_2_8, a_2_9, a_2_10⟩ := id g_2
  obtain ⟨a_3_0, a_3_1, a_3_2, a_3_3⟩ := id g_3
  have n0 : (0 : Int32).toInt = 0 := by decide
  have n1 : (1 : Int32).toInt = 1 := by decide
  refine wp_cu25 (sf_X9_cost (u_row := v_row) (u_col := v_column) (u_sR := v_shapeRows) (u_sC := v_shapeColumns) (A := 32) (B9 := 160) (a9 := 1) (b9 := 5) (u_bel := v_below) (u_fac := v_face) (u_wo := v_worn) (u_la := v_lastBend) (Aw := 64) (Bw := 320) (Nat.le_refl 700) a_1_0 a_1_1 a_1_2 a_1_3 a_2_2 a_2_3 a_3_0 a_3_1 a_0_4 a_1_4 a_1_5 a_1_6 a_1_7 a_1_8 a_1_9 a_1_10 a_1_11 a_2_4 a_2_5 a_2_6 a_2_7 a_2_8 a_2_9 a_2_10 a_3_2 a_3_3 (fr_refl _ _ _) (fr_refl _ _ _) (fr_refl _ _ _) (fr_refl _ _ _) (by omega) (by omega) (by omega) (by omega) (fr_refl _ _ _) (fr_refl _ _ _) (fr_refl _ _ _) (fr_refl _ _ _) (by omega) (by omega)) (fun r wv_base wv_at wv_ends wv_fault wv_opened wv_bentMany wv_bentWrong wv_moreWorn wv_allWrong wv_allWorn wv_z wv_shapeRows wv_shapeColumns wv_row wv_column wv_below wv_face wv_worn wv_lastBend wv_names wv_bends wv_high wv_to wv_pileSize ⟨q_0, q_1, q_2, q_3, q_4, q_5, q_6, q_7, q_8, q_9, q_10, q_11, q_12, q_13, q_14, q_15, q_16, q_17, q_18, q_19, q_20⟩ => ?_)
  exact ⟨⟨q_15, q_16, q_13, q_14, q_17, q_18⟩, q_19, q_20⟩
set_option maxHeartbeats 4000000 in
set_option maxRecDepth 20000 in
theorem sg9_lies {x1 : Int32} {x2 : Int32} {v_rowsOf : Int32} {v_columnsOf : Int32} {v_textMany : Int32} {v_base : Int32} {v_at : Int32} {v_ends : Int32} {v_fault : Int32} {v_opened : Int32} {v_bentMany : Int32} {v_bentWrong : Int32} {v_moreWorn : Int32} {v_planned : Int32} {v_allWrong : Int32} {v_allWorn : Int32} {v_z : Int32} {v_limit : List Int32} {v_shapeRows : List Int32} {v_shapeColumns : List Int32} {v_row : List Int32} {v_column : List Int32} {v_below : List Int32} {v_face : List Int32} {v_worn : List Int32} {v_lastBend : List Int32} {v_tape : List Int32} {v_text : List Int32} {v_names : List Int32} {v_bends : List Int32} {v_high : List Int32} {v_to : List Int32} {v_pileSize : List Int32} {v_planLine : List Int32} {v_planWay : List Int32} {v_keptMany : Int32} {v_done : Int32} {v_changeWas : List Int32} {v_changeIs : List Int32} {v_isKept : Bool} {v_imageRows : Int32} {v_imageColumns : Int32} {v_tapeMany : Int32} (g_0 : gm_ch v_keptMany v_done v_limit v_changeWas v_changeIs) (g_1 : gm_sh v_rowsOf v_columnsOf v_isKept v_imageRows v_imageColumns v_shapeRows v_shapeColumns v_row v_column v_below v_face v_worn v_lastBend) (g_2 : gm_tx v_tapeMany v_textMany v_tape v_text v_names v_bends v_high v_to v_pileSize) (g_3 : gm_pl v_planned v_planLine v_planWay) : wp (fX9_lies 700 x1 x2 v_rowsOf v_columnsOf v_textMany v_base v_at v_ends v_fault v_opened v_bentMany v_bentWrong v_moreWorn v_planned v_allWrong v_allWorn v_z v_limit v_shapeRows v_shapeColumns v_row v_column v_below v_face v_worn v_lastBend v_tape v_text v_names v_bends v_high v_to v_pileSize v_planLine v_planWay) (cu25 (fun (r : Int32) (wv_base : Int32) (wv_at : Int32) (wv_ends : Int32) (wv_fault : Int32) (wv_opened : Int32) (wv_bentMany : Int32) (wv_bentWrong : Int32) (wv_moreWorn : Int32) (wv_allWrong : Int32) (wv_allWorn : Int32) (wv_z : Int32) (wv_shapeRows : List Int32) (wv_shapeColumns : List Int32) (wv_row : List Int32) (wv_column : List Int32) (wv_below : List Int32) (wv_face : List Int32) (wv_worn : List Int32) (wv_lastBend : List Int32) (wv_names : List Int32) (wv_bends : List Int32) (wv_high : List Int32) (wv_to : List Int32) (wv_pileSize : List Int32) => f6_w v_shapeRows v_shapeColumns v_row v_column v_below v_face wv_shapeRows wv_shapeColumns wv_row wv_column wv_below wv_face ∧ fr v_worn wv_worn 64 320 ∧ fr v_lastBend wv_lastBend 64 320)) := by
  obtain ⟨a_0_0, a_0_1, a_0_2, a_0_3, a_0_4, a_0_5, a_0_6, a_0_7⟩ := id g_0
  obtain ⟨a_1_0, a_1_1, a_1_2, a_1_3, a_1_4, a_1_5, a_1_6, a_1_7, a_1_8, a_1_9, a_1_10, a_1_11, a_1_12, a_1_13⟩ := id g_1
  obtain ⟨a_2_0, a_2_1, a_2_2, a_2_3, a_2_4, a_2_5, a_2_6, a_2_7, a_2_8, a_2_9, a_2_10⟩ := id g_2
  obtain ⟨a_3_0, a_3_1, a_3_2, a_3_3⟩ := id g_3
  have n0 : (0 : Int32).toInt = 0 := by decide
  have n1 : (1 : Int32).toInt = 1 := by decide
  refine wp_cu25 (sf_X9_lies (u_row := v_row) (u_col := v_column) (u_sR := v_shapeRows) (u_sC := v_shapeColumns) (A := 32) (B9 := 160) (a9 := 1) (b9 := 5) (u_bel := v_below) (u_fac := v_face) (u_wo := v_worn) (u_la := v_lastBend) (Aw := 64) (Bw := 320) (Nat.le_refl 700) a_1_0 a_1_1 a_1_2 a_1_3 a_2_2 a_2_3 a_3_0 a_3_1 a_0_4 a_1_4 a_1_5 a_1_6 a_1_7 a_1_8 a_1_9 a_1_10 a_1_11 a_2_4 a_2_5 a_2_6 a_2_7 a_2_8 a_2_9 a_2_10 a_3_2 a_3_3 (fr_refl _ _ _) (fr_refl _ _ _) (fr_refl _ _ _) (fr_refl _ _ _) (by omega) (by omega) (by omega) (by omega) (fr_refl _ _ _) (fr_refl _ _ _) (fr_refl _ _ _) (fr_refl _ _ _) (by omega) (by omega)) (fun r wv_base wv_at wv_ends wv_fault wv_opened wv_bentMany wv_bentWrong wv_moreWorn wv_allWrong wv_allWorn wv_z wv_shapeRows wv_shapeColumns wv_row wv_column wv_below wv_face wv_worn wv_lastBend wv_names wv_bends wv_high wv_to wv_pileSize ⟨q_0, q_1, q_2, q_3, q_4, q_5, q_6, q_7, q_8, q_9, q_10, q_11, q_12, q_13, q_14, q_15, q_16, q_17, q_18, q_19, q_20⟩ => ?_)
  exact ⟨⟨q_15, q_16, q_13, q_14, q_17, q_18⟩, q_19, q_20⟩
set_option maxHeartbeats 4000000 in
set_option maxRecDepth 20000 in
theorem sg9_top {x1 : Int32} {x2 : Int32} {v_rowsOf : Int32} {v_columnsOf : Int32} {v_textMany : Int32} {v_base : Int32} {v_at : Int32} {v_ends : Int32} {v_fault : Int32} {v_opened : Int32} {v_bentMany : Int32} {v_bentWrong : Int32} {v_moreWorn : Int32} {v_planned : Int32} {v_allWrong : Int32} {v_allWorn : Int32} {v_z : Int32} {v_limit : List Int32} {v_shapeRows : List Int32} {v_shapeColumns : List Int32} {v_row : List Int32} {v_column : List Int32} {v_below : List Int32} {v_face : List Int32} {v_worn : List Int32} {v_lastBend : List Int32} {v_tape : List Int32} {v_text : List Int32} {v_names : List Int32} {v_bends : List Int32} {v_high : List Int32} {v_to : List Int32} {v_pileSize : List Int32} {v_planLine : List Int32} {v_planWay : List Int32} {v_keptMany : Int32} {v_done : Int32} {v_changeWas : List Int32} {v_changeIs : List Int32} {v_isKept : Bool} {v_imageRows : Int32} {v_imageColumns : Int32} {v_tapeMany : Int32} (g_0 : gm_ch v_keptMany v_done v_limit v_changeWas v_changeIs) (g_1 : gm_sh v_rowsOf v_columnsOf v_isKept v_imageRows v_imageColumns v_shapeRows v_shapeColumns v_row v_column v_below v_face v_worn v_lastBend) (g_2 : gm_tx v_tapeMany v_textMany v_tape v_text v_names v_bends v_high v_to v_pileSize) (g_3 : gm_pl v_planned v_planLine v_planWay) : wp (fX9_top 700 x1 x2 v_rowsOf v_columnsOf v_textMany v_base v_at v_ends v_fault v_opened v_bentMany v_bentWrong v_moreWorn v_planned v_allWrong v_allWorn v_z v_limit v_shapeRows v_shapeColumns v_row v_column v_below v_face v_worn v_lastBend v_tape v_text v_names v_bends v_high v_to v_pileSize v_planLine v_planWay) (cu25 (fun (r : Int32) (wv_base : Int32) (wv_at : Int32) (wv_ends : Int32) (wv_fault : Int32) (wv_opened : Int32) (wv_bentMany : Int32) (wv_bentWrong : Int32) (wv_moreWorn : Int32) (wv_allWrong : Int32) (wv_allWorn : Int32) (wv_z : Int32) (wv_shapeRows : List Int32) (wv_shapeColumns : List Int32) (wv_row : List Int32) (wv_column : List Int32) (wv_below : List Int32) (wv_face : List Int32) (wv_worn : List Int32) (wv_lastBend : List Int32) (wv_names : List Int32) (wv_bends : List Int32) (wv_high : List Int32) (wv_to : List Int32) (wv_pileSize : List Int32) => f6_w v_shapeRows v_shapeColumns v_row v_column v_below v_face wv_shapeRows wv_shapeColumns wv_row wv_column wv_below wv_face ∧ fr v_worn wv_worn 64 320 ∧ fr v_lastBend wv_lastBend 64 320)) := by
  obtain ⟨a_0_0, a_0_1, a_0_2, a_0_3, a_0_4, a_0_5, a_0_6, a_0_7⟩ := id g_0
  obtain ⟨a_1_0, a_1_1, a_1_2, a_1_3, a_1_4, a_1_5, a_1_6, a_1_7, a_1_8, a_1_9, a_1_10, a_1_11, a_1_12, a_1_13⟩ := id g_1
  obtain ⟨a_2_0, a_2_1, a_2_2, a_2_3, a_2_4, a_2_5, a_2_6, a_2_7, a_2_8, a_2_9, a_2_10⟩ := id g_2
  obtain ⟨a_3_0, a_3_1, a_3_2, a_3_3⟩ := id g_3
  have n0 : (0 : Int32).toInt = 0 := by decide
  have n1 : (1 : Int32).toInt = 1 := by decide
  refine wp_cu25 (sf_X9_top (u_row := v_row) (u_col := v_column) (u_sR := v_shapeRows) (u_sC := v_shapeColumns) (A := 32) (B9 := 160) (a9 := 1) (b9 := 5) (u_bel := v_below) (u_fac := v_face) (u_wo := v_worn) (u_la := v_lastBend) (Aw := 64) (Bw := 320) (Nat.le_refl 700) a_1_0 a_1_1 a_1_2 a_1_3 a_2_2 a_2_3 a_3_0 a_3_1 a_0_4 a_1_4 a_1_5 a_1_6 a_1_7 a_1_8 a_1_9 a_1_10 a_1_11 a_2_4 a_2_5 a_2_6 a_2_7 a_2_8 a_2_9 a_2_10 a_3_2 a_3_3 (fr_refl _ _ _) (fr_refl _ _ _) (fr_refl _ _ _) (fr_refl _ _ _) (by omega) (by omega) (by omega) (by omega) (fr_refl _ _ _) (fr_refl _ _ _) (fr_refl _ _ _) (fr_refl _ _ _) (by omega) (by omega)) (fun r wv_base wv_at wv_ends wv_fault wv_opened wv_bentMany wv_bentWrong wv_moreWorn wv_allWrong wv_allWorn wv_z wv_shapeRows wv_shapeColumns wv_row wv_column wv_below wv_face wv_worn wv_lastBend wv_names wv_bends wv_high wv_to wv_pileSize ⟨q_0, q_1, q_2, q_3, q_4, q_5, q_6, q_7, q_8, q_9, q_10, q_11, q_12, q_13, q_14, q_15, q_16, q_17, q_18, q_19, q_20⟩ => ?_)
  exact ⟨⟨q_15, q_16, q_13, q_14, q_17, q_18⟩, q_19, q_20⟩
set_option maxHeartbeats 4000000 in
set_option maxRecDepth 20000 in
theorem sg9_beside {x1 : Int32} {x2 : Int32} {v_rowsOf : Int32} {v_columnsOf : Int32} {v_textMany : Int32} {v_base : Int32} {v_at : Int32} {v_ends : Int32} {v_fault : Int32} {v_opened : Int32} {v_bentMany : Int32} {v_bentWrong : Int32} {v_moreWorn : Int32} {v_planned : Int32} {v_allWrong : Int32} {v_allWorn : Int32} {v_z : Int32} {v_limit : List Int32} {v_shapeRows : List Int32} {v_shapeColumns : List Int32} {v_row : List Int32} {v_column : List Int32} {v_below : List Int32} {v_face : List Int32} {v_worn : List Int32} {v_lastBend : List Int32} {v_tape : List Int32} {v_text : List Int32} {v_names : List Int32} {v_bends : List Int32} {v_high : List Int32} {v_to : List Int32} {v_pileSize : List Int32} {v_planLine : List Int32} {v_planWay : List Int32} {v_keptMany : Int32} {v_done : Int32} {v_changeWas : List Int32} {v_changeIs : List Int32} {v_isKept : Bool} {v_imageRows : Int32} {v_imageColumns : Int32} {v_tapeMany : Int32} (g_0 : gm_ch v_keptMany v_done v_limit v_changeWas v_changeIs) (g_1 : gm_sh v_rowsOf v_columnsOf v_isKept v_imageRows v_imageColumns v_shapeRows v_shapeColumns v_row v_column v_below v_face v_worn v_lastBend) (g_2 : gm_tx v_tapeMany v_textMany v_tape v_text v_names v_bends v_high v_to v_pileSize) (g_3 : gm_pl v_planned v_planLine v_planWay) : wp (fX9_beside 700 x1 x2 v_rowsOf v_columnsOf v_textMany v_base v_at v_ends v_fault v_opened v_bentMany v_bentWrong v_moreWorn v_planned v_allWrong v_allWorn v_z v_limit v_shapeRows v_shapeColumns v_row v_column v_below v_face v_worn v_lastBend v_tape v_text v_names v_bends v_high v_to v_pileSize v_planLine v_planWay) (cu25 (fun (r : Int32) (wv_base : Int32) (wv_at : Int32) (wv_ends : Int32) (wv_fault : Int32) (wv_opened : Int32) (wv_bentMany : Int32) (wv_bentWrong : Int32) (wv_moreWorn : Int32) (wv_allWrong : Int32) (wv_allWorn : Int32) (wv_z : Int32) (wv_shapeRows : List Int32) (wv_shapeColumns : List Int32) (wv_row : List Int32) (wv_column : List Int32) (wv_below : List Int32) (wv_face : List Int32) (wv_worn : List Int32) (wv_lastBend : List Int32) (wv_names : List Int32) (wv_bends : List Int32) (wv_high : List Int32) (wv_to : List Int32) (wv_pileSize : List Int32) => f6_w v_shapeRows v_shapeColumns v_row v_column v_below v_face wv_shapeRows wv_shapeColumns wv_row wv_column wv_below wv_face ∧ fr v_worn wv_worn 64 320 ∧ fr v_lastBend wv_lastBend 64 320)) := by
  obtain ⟨a_0_0, a_0_1, a_0_2, a_0_3, a_0_4, a_0_5, a_0_6, a_0_7⟩ := id g_0
  obtain ⟨a_1_0, a_1_1, a_1_2, a_1_3, a_1_4, a_1_5, a_1_6, a_1_7, a_1_8, a_1_9, a_1_10, a_1_11, a_1_12, a_1_13⟩ := id g_1
  obtain ⟨a_2_0, a_2_1, a_2_2, a_2_3, a_2_4, a_2_5, a_2_6, a_2_7, a_2_8, a_2_9, a_2_10⟩ := id g_2
  obtain ⟨a_3_0, a_3_1, a_3_2, a_3_3⟩ := id g_3
  have n0 : (0 : Int32).toInt = 0 := by decide
  have n1 : (1 : Int32).toInt = 1 := by decide
  refine wp_cu25 (sf_X9_beside (u_row := v_row) (u_col := v_column) (u_sR := v_shapeRows) (u_sC := v_shapeColumns) (A := 32) (B9 := 160) (a9 := 1) (b9 := 5) (u_bel := v_below) (u_fac := v_face) (u_wo := v_worn) (u_la := v_lastBend) (Aw := 64) (Bw := 320) (Nat.le_refl 700) a_1_0 a_1_1 a_1_2 a_1_3 a_2_2 a_2_3 a_3_0 a_3_1 a_0_4 a_1_4 a_1_5 a_1_6 a_1_7 a_1_8 a_1_9 a_1_10 a_1_11 a_2_4 a_2_5 a_2_6 a_2_7 a_2_8 a_2_9 a_2_10 a_3_2 a_3_3 (fr_refl _ _ _) (fr_refl _ _ _) (fr_refl _ _ _) (fr_refl _ _ _) (by omega) (by omega) (by omega) (by omega) (fr_refl _ _ _) (fr_refl _ _ _) (fr_refl _ _ _) (fr_refl _ _ _) (by omega) (by omega)) (fun r wv_base wv_at wv_ends wv_fault wv_opened wv_bentMany wv_bentWrong wv_moreWorn wv_allWrong wv_allWorn wv_z wv_shapeRows wv_shapeColumns wv_row wv_column wv_below wv_face wv_worn wv_lastBend wv_names wv_bends wv_high wv_to wv_pileSize ⟨q_0, q_1, q_2, q_3, q_4, q_5, q_6, q_7, q_8, q_9, q_10, q_11, q_12, q_13, q_14, q_15, q_16, q_17, q_18, q_19, q_20⟩ => ?_)
  exact ⟨⟨q_15, q_16, q_13, q_14, q_17, q_18⟩, q_19, q_20⟩
set_option maxHeartbeats 4000000 in
set_option maxRecDepth 20000 in
theorem sg9_wished {x1 : Int32} {x2 : Int32} {v_rowsOf : Int32} {v_columnsOf : Int32} {v_textMany : Int32} {v_base : Int32} {v_at : Int32} {v_ends : Int32} {v_fault : Int32} {v_opened : Int32} {v_bentMany : Int32} {v_bentWrong : Int32} {v_moreWorn : Int32} {v_wishedField : Int32} {v_isFound : Bool} {v_bestWrong : Int32} {v_bestWorn : Int32} {v_bestMany : Int32} {v_limit : List Int32} {v_shapeRows : List Int32} {v_shapeColumns : List Int32} {v_row : List Int32} {v_column : List Int32} {v_below : List Int32} {v_face : List Int32} {v_worn : List Int32} {v_lastBend : List Int32} {v_tape : List Int32} {v_text : List Int32} {v_names : List Int32} {v_bends : List Int32} {v_high : List Int32} {v_to : List Int32} {v_pileSize : List Int32} {v_way1 : List Int32} {v_bestWay : List Int32} {v_keptMany : Int32} {v_done : Int32} {v_changeWas : List Int32} {v_changeIs : List Int32} {v_isKept : Bool} {v_imageRows : Int32} {v_imageColumns : Int32} {v_tapeMany : Int32} (g_0 : gm_ch v_keptMany v_done v_limit v_changeWas v_changeIs) (g_1 : gm_sh v_rowsOf v_columnsOf v_isKept v_imageRows v_imageColumns v_shapeRows v_shapeColumns v_row v_column v_below v_face v_worn v_lastBend) (g_2 : gm_tx v_tapeMany v_textMany v_tape v_text v_names v_bends v_high v_to v_pileSize) (g_3 : gm_se v_bestMany v_way1 v_bestWay) : wp (fX9_wished 700 x1 x2 v_rowsOf v_columnsOf v_textMany v_base v_at v_ends v_fault v_opened v_bentMany v_bentWrong v_moreWorn v_wishedField v_isFound v_bestWrong v_bestWorn v_bestMany v_limit v_shapeRows v_shapeColumns v_row v_column v_below v_face v_worn v_lastBend v_tape v_text v_names v_bends v_high v_to v_pileSize v_way1 v_bestWay) (cu29 (fun (r : Int32) (wv_base : Int32) (wv_at : Int32) (wv_ends : Int32) (wv_fault : Int32) (wv_opened : Int32) (wv_bentMany : Int32) (wv_bentWrong : Int32) (wv_moreWorn : Int32) (wv_wishedField : Int32) (wv_isFound : Bool) (wv_bestWrong : Int32) (wv_bestWorn : Int32) (wv_bestMany : Int32) (wv_shapeRows : List Int32) (wv_shapeColumns : List Int32) (wv_row : List Int32) (wv_column : List Int32) (wv_below : List Int32) (wv_face : List Int32) (wv_worn : List Int32) (wv_lastBend : List Int32) (wv_names : List Int32) (wv_bends : List Int32) (wv_high : List Int32) (wv_to : List Int32) (wv_pileSize : List Int32) (wv_way1 : List Int32) (wv_bestWay : List Int32) => f6_w v_shapeRows v_shapeColumns v_row v_column v_below v_face wv_shapeRows wv_shapeColumns wv_row wv_column wv_below wv_face ∧ fr v_worn wv_worn 64 320 ∧ fr v_lastBend wv_lastBend 64 320)) := by
  obtain ⟨a_0_0, a_0_1, a_0_2, a_0_3, a_0_4, a_0_5, a_0_6, a_0_7⟩ := id g_0
  obtain ⟨a_1_0, a_1_1, a_1_2, a_1_3, a_1_4, a_1_5, a_1_6, a_1_7, a_1_8, a_1_9, a_1_10, a_1_11, a_1_12, a_1_13⟩ := id g_1
  obtain ⟨a_2_0, a_2_1, a_2_2, a_2_3, a_2_4, a_2_5, a_2_6, a_2_7, a_2_8, a_2_9, a_2_10⟩ := id g_2
  obtain ⟨a_3_0, a_3_1, a_3_2, a_3_3⟩ := id g_3
  have n0 : (0 : Int32).toInt = 0 := by decide
  have n1 : (1 : Int32).toInt = 1 := by decide
  refine wp_cu29 (sf_X9_wished (u_row := v_row) (u_col := v_column) (u_sR := v_shapeRows) (u_sC := v_shapeColumns) (A := 32) (B9 := 160) (a9 := 1) (b9 := 5) (u_bel := v_below) (u_fac := v_face) (u_wo := v_worn) (u_la := v_lastBend) (Aw := 64) (Bw := 320) (Nat.le_refl 700) a_1_0 a_1_1 a_1_2 a_1_3 a_2_2 a_2_3 a_3_0 a_3_1 a_0_4 a_1_4 a_1_5 a_1_6 a_1_7 a_1_8 a_1_9 a_1_10 a_1_11 a_2_4 a_2_5 a_2_6 a_2_7 a_2_8 a_2_9 a_2_10 a_3_2 a_3_3 (fr_refl _ _ _) (fr_refl _ _ _) (fr_refl _ _ _) (fr_refl _ _ _) (by omega) (by omega) (by omega) (by omega) (fr_refl _ _ _) (fr_refl _ _ _) (fr_refl _ _ _) (fr_refl _ _ _) (by omega) (by omega)) (fun r wv_base wv_at wv_ends wv_fault wv_opened wv_bentMany wv_bentWrong wv_moreWorn wv_wishedField wv_isFound wv_bestWrong wv_bestWorn wv_bestMany wv_shapeRows wv_shapeColumns wv_row wv_column wv_below wv_face wv_worn wv_lastBend wv_names wv_bends wv_high wv_to wv_pileSize wv_way1 wv_bestWay ⟨q_0, q_1, q_2, q_3, q_4, q_5, q_6, q_7, q_8, q_9, q_10, q_11, q_12, q_13, q_14, q_15, q_16, q_17, q_18, q_19, q_20, q_21, q_22, q_23, q_24⟩ => ?_)
  exact ⟨⟨q_19, q_20, q_17, q_18, q_21, q_22⟩, q_23, q_24⟩
set_option maxHeartbeats 4000000 in
set_option maxRecDepth 20000 in
theorem sg9_right {x1 : Int32} {v_rowsOf : Int32} {v_columnsOf : Int32} {v_textMany : Int32} {v_base : Int32} {v_at : Int32} {v_ends : Int32} {v_fault : Int32} {v_opened : Int32} {v_bentMany : Int32} {v_bentWrong : Int32} {v_moreWorn : Int32} {v_wishedField : Int32} {v_isFound : Bool} {v_bestWrong : Int32} {v_bestWorn : Int32} {v_bestMany : Int32} {v_limit : List Int32} {v_shapeRows : List Int32} {v_shapeColumns : List Int32} {v_row : List Int32} {v_column : List Int32} {v_below : List Int32} {v_face : List Int32} {v_worn : List Int32} {v_lastBend : List Int32} {v_tape : List Int32} {v_text : List Int32} {v_names : List Int32} {v_bends : List Int32} {v_high : List Int32} {v_to : List Int32} {v_pileSize : List Int32} {v_way1 : List Int32} {v_bestWay : List Int32} {v_keptMany : Int32} {v_done : Int32} {v_changeWas : List Int32} {v_changeIs : List Int32} {v_isKept : Bool} {v_imageRows : Int32} {v_imageColumns : Int32} {v_tapeMany : Int32} (g_0 : gm_ch v_keptMany v_done v_limit v_changeWas v_changeIs) (g_1 : gm_sh v_rowsOf v_columnsOf v_isKept v_imageRows v_imageColumns v_shapeRows v_shapeColumns v_row v_column v_below v_face v_worn v_lastBend) (g_2 : gm_tx v_tapeMany v_textMany v_tape v_text v_names v_bends v_high v_to v_pileSize) (g_3 : gm_se v_bestMany v_way1 v_bestWay) : wp (fX9_right 700 x1 v_rowsOf v_columnsOf v_textMany v_base v_at v_ends v_fault v_opened v_bentMany v_bentWrong v_moreWorn v_wishedField v_isFound v_bestWrong v_bestWorn v_bestMany v_limit v_shapeRows v_shapeColumns v_row v_column v_below v_face v_worn v_lastBend v_tape v_text v_names v_bends v_high v_to v_pileSize v_way1 v_bestWay) (cu29 (fun (r : Int32) (wv_base : Int32) (wv_at : Int32) (wv_ends : Int32) (wv_fault : Int32) (wv_opened : Int32) (wv_bentMany : Int32) (wv_bentWrong : Int32) (wv_moreWorn : Int32) (wv_wishedField : Int32) (wv_isFound : Bool) (wv_bestWrong : Int32) (wv_bestWorn : Int32) (wv_bestMany : Int32) (wv_shapeRows : List Int32) (wv_shapeColumns : List Int32) (wv_row : List Int32) (wv_column : List Int32) (wv_below : List Int32) (wv_face : List Int32) (wv_worn : List Int32) (wv_lastBend : List Int32) (wv_names : List Int32) (wv_bends : List Int32) (wv_high : List Int32) (wv_to : List Int32) (wv_pileSize : List Int32) (wv_way1 : List Int32) (wv_bestWay : List Int32) => f6_w v_shapeRows v_shapeColumns v_row v_column v_below v_face wv_shapeRows wv_shapeColumns wv_row wv_column wv_below wv_face ∧ fr v_worn wv_worn 64 320 ∧ fr v_lastBend wv_lastBend 64 320)) := by
  obtain ⟨a_0_0, a_0_1, a_0_2, a_0_3, a_0_4, a_0_5, a_0_6, a_0_7⟩ := id g_0
  obtain ⟨a_1_0, a_1_1, a_1_2, a_1_3, a_1_4, a_1_5, a_1_6, a_1_7, a_1_8, a_1_9, a_1_10, a_1_11, a_1_12, a_1_13⟩ := id g_1
  obtain ⟨a_2_0, a_2_1, a_2_2, a_2_3, a_2_4, a_2_5, a_2_6, a_2_7, a_2_8, a_2_9, a_2_10⟩ := id g_2
  obtain ⟨a_3_0, a_3_1, a_3_2, a_3_3⟩ := id g_3
  have n0 : (0 : Int32).toInt = 0 := by decide
  have n1 : (1 : Int32).toInt = 1 := by decide
  refine wp_cu29 (sf_X9_right (u_row := v_row) (u_col := v_column) (u_sR := v_shapeRows) (u_sC := v_shapeColumns) (A := 32) (B9 := 160) (a9 := 1) (b9 := 5) (u_bel := v_below) (u_fac := v_face) (u_wo := v_worn) (u_la := v_lastBend) (Aw := 64) (Bw := 320) (Nat.le_refl 700) a_1_0 a_1_1 a_1_2 a_1_3 a_2_2 a_2_3 a_3_0 a_3_1 a_0_4 a_1_4 a_1_5 a_1_6 a_1_7 a_1_8 a_1_9 a_1_10 a_1_11 a_2_4 a_2_5 a_2_6 a_2_7 a_2_8 a_2_9 a_2_10 a_3_2 a_3_3 (fr_refl _ _ _) (fr_refl _ _ _) (fr_refl _ _ _) (fr_refl _ _ _) (by omega) (by omega) (by omega) (by omega) (fr_refl _ _ _) (fr_refl _ _ _) (fr_refl _ _ _) (fr_refl _ _ _) (by omega) (by omega)) (fun r wv_base wv_at wv_ends wv_fault wv_opened wv_bentMany wv_bentWrong wv_moreWorn wv_wishedField wv_isFound wv_bestWrong wv_bestWorn wv_bestMany wv_shapeRows wv_shapeColumns wv_row wv_column wv_below wv_face wv_worn wv_lastBend wv_names wv_bends wv_high wv_to wv_pileSize wv_way1 wv_bestWay ⟨q_0, q_1, q_2, q_3, q_4, q_5, q_6, q_7, q_8, q_9, q_10, q_11, q_12, q_13, q_14, q_15, q_16, q_17, q_18, q_19, q_20, q_21, q_22, q_23, q_24⟩ => ?_)
  exact ⟨⟨q_19, q_20, q_17, q_18, q_21, q_22⟩, q_23, q_24⟩
set_option maxHeartbeats 4000000 in
set_option maxRecDepth 20000 in
theorem sg9_wind {x1 : Int32} {x2 : Int32} {x3 : Int32} {v_rowsOf : Int32} {v_columnsOf : Int32} {v_textMany : Int32} {v_base : Int32} {v_at : Int32} {v_ends : Int32} {v_fault : Int32} {v_opened : Int32} {v_bentMany : Int32} {v_bentWrong : Int32} {v_moreWorn : Int32} {v_planned : Int32} {v_allWrong : Int32} {v_allWorn : Int32} {v_z : Int32} {v_limit : List Int32} {v_shapeRows : List Int32} {v_shapeColumns : List Int32} {v_row : List Int32} {v_column : List Int32} {v_below : List Int32} {v_face : List Int32} {v_worn : List Int32} {v_lastBend : List Int32} {v_tape : List Int32} {v_text : List Int32} {v_names : List Int32} {v_bends : List Int32} {v_high : List Int32} {v_to : List Int32} {v_pileSize : List Int32} {v_planLine : List Int32} {v_planWay : List Int32} {v_keptMany : Int32} {v_done : Int32} {v_changeWas : List Int32} {v_changeIs : List Int32} {v_isKept : Bool} {v_imageRows : Int32} {v_imageColumns : Int32} {v_tapeMany : Int32} (g_0 : gm_ch v_keptMany v_done v_limit v_changeWas v_changeIs) (g_1 : gm_sh v_rowsOf v_columnsOf v_isKept v_imageRows v_imageColumns v_shapeRows v_shapeColumns v_row v_column v_below v_face v_worn v_lastBend) (g_2 : gm_tx v_tapeMany v_textMany v_tape v_text v_names v_bends v_high v_to v_pileSize) (g_3 : gm_pl v_planned v_planLine v_planWay) : wp (fX9_wind 700 x1 x2 x3 v_rowsOf v_columnsOf v_textMany v_base v_at v_ends v_fault v_opened v_bentMany v_bentWrong v_moreWorn v_planned v_allWrong v_allWorn v_z v_limit v_shapeRows v_shapeColumns v_row v_column v_below v_face v_worn v_lastBend v_tape v_text v_names v_bends v_high v_to v_pileSize v_planLine v_planWay) (cu25 (fun (r : Int32) (wv_base : Int32) (wv_at : Int32) (wv_ends : Int32) (wv_fault : Int32) (wv_opened : Int32) (wv_bentMany : Int32) (wv_bentWrong : Int32) (wv_moreWorn : Int32) (wv_allWrong : Int32) (wv_allWorn : Int32) (wv_z : Int32) (wv_shapeRows : List Int32) (wv_shapeColumns : List Int32) (wv_row : List Int32) (wv_column : List Int32) (wv_below : List Int32) (wv_face : List Int32) (wv_worn : List Int32) (wv_lastBend : List Int32) (wv_names : List Int32) (wv_bends : List Int32) (wv_high : List Int32) (wv_to : List Int32) (wv_pileSize : List Int32) => f6_w v_shapeRows v_shapeColumns v_row v_column v_below v_face wv_shapeRows wv_shapeColumns wv_row wv_column wv_below wv_face ∧ fr v_worn wv_worn 64 320 ∧ fr v_lastBend wv_lastBend 64 320)) := by
  obtain ⟨a_0_0, a_0_1, a_0_2, a_0_3, a_0_4, a_0_5, a_0_6, a_0_7⟩ := id g_0
  obtain ⟨a_1_0, a_1_1, a_1_2, a_1_3, a_1_4, a_1_5, a_1_6, a_1_7, a_1_8, a_1_9, a_1_10, a_1_11, a_1_12, a_1_13⟩ := id g_1
  obtain ⟨a_2_0, a_2_1, a_2_2, a_2_3, a_2_4, a_2_5, a_2_6, a_2_7, a_2_8, a_2_9, a_2_10⟩ := id g_2
  obtain ⟨a_3_0, a_3_1, a_3_2, a_3_3⟩ := id g_3
  have n0 : (0 : Int32).toInt = 0 := by decide
  have n1 : (1 : Int32).toInt = 1 := by decide
  refine wp_cu25 (sf_X9_wind (u_row := v_row) (u_col := v_column) (u_sR := v_shapeRows) (u_sC := v_shapeColumns) (A := 32) (B9 := 160) (a9 := 1) (b9 := 5) (u_bel := v_below) (u_fac := v_face) (u_wo := v_worn) (u_la := v_lastBend) (Aw := 64) (Bw := 320) (Nat.le_refl 700) a_1_0 a_1_1 a_1_2 a_1_3 a_2_2 a_2_3 a_3_0 a_3_1 a_0_4 a_1_4 a_1_5 a_1_6 a_1_7 a_1_8 a_1_9 a_1_10 a_1_11 a_2_4 a_2_5 a_2_6 a_2_7 a_2_8 a_2_9 a_2_10 a_3_2 a_3_3 (fr_refl _ _ _) (fr_refl _ _ _) (fr_refl _ _ _) (fr_refl _ _ _) (by omega) (by omega) (by omega) (by omega) (fr_refl _ _ _) (fr_refl _ _ _) (fr_refl _ _ _) (fr_refl _ _ _) (by omega) (by omega)) (fun r wv_base wv_at wv_ends wv_fault wv_opened wv_bentMany wv_bentWrong wv_moreWorn wv_allWrong wv_allWorn wv_z wv_shapeRows wv_shapeColumns wv_row wv_column wv_below wv_face wv_worn wv_lastBend wv_names wv_bends wv_high wv_to wv_pileSize ⟨q_0, q_1, q_2, q_3, q_4, q_5, q_6, q_7, q_8, q_9, q_10, q_11, q_12, q_13, q_14, q_15, q_16, q_17, q_18, q_19, q_20⟩ => ?_)
  exact ⟨⟨q_15, q_16, q_13, q_14, q_17, q_18⟩, q_19, q_20⟩
end
section
/-! The geometry kept by them -/
theorem fk_cost_ge {x1 : Int32} {v_now_rows : Int32} {v_now_cols : Int32} {v_now_high : Int32} {v_now_wide : Int32} {v_now_folds : Int32} {v_now_rowOf : List Int32} {v_now_colOf : List Int32} {v_now_below : List Int32} {v_now_face : List Int32} {v_hasImage : Bool} {v_kept_rows : Int32} {v_kept_cols : Int32} {v_kept_high : Int32} {v_kept_wide : Int32} {v_kept_folds : Int32} {v_kept_rowOf : List Int32} {v_kept_colOf : List Int32} {v_kept_below : List Int32} {v_kept_face : List Int32} {m_rowsOf : Int32} {m_columnsOf : Int32} {m_textMany : Int32} {m_base : Int32} {m_at : Int32} {m_ends : Int32} {m_fault : Int32} {m_opened : Int32} {m_bentMany : Int32} {m_bentWrong : Int32} {m_moreWorn : Int32} {m_planned : Int32} {m_allWrong : Int32} {m_allWorn : Int32} {m_z : Int32} {m_limit : List Int32} {m_shapeRows : List Int32} {m_shapeColumns : List Int32} {m_row : List Int32} {m_column : List Int32} {m_below : List Int32} {m_face : List Int32} {m_worn : List Int32} {m_lastBend : List Int32} {m_tape : List Int32} {m_text : List Int32} {m_names : List Int32} {m_bends : List Int32} {m_high : List Int32} {m_to : List Int32} {m_pileSize : List Int32} {m_planLine : List Int32} {m_planWay : List Int32} {m_keptMany : Int32} {m_done : Int32} {m_changeWas : List Int32} {m_changeIs : List Int32} {m_isKept : Bool} {m_imageRows : Int32} {m_imageColumns : Int32} {m_tapeMany : Int32} {m_folded : Int32} {m_imageFolded : Int32} {r9 : Int32} {q_base : Int32} {q_at : Int32} {q_ends : Int32} {q_fault : Int32} {q_opened : Int32} {q_bentMany : Int32} {q_bentWrong : Int32} {q_moreWorn : Int32} {q_allWrong : Int32} {q_allWorn : Int32} {q_z : Int32} {q_shapeRows : List Int32} {q_shapeColumns : List Int32} {q_row : List Int32} {q_column : List Int32} {q_below : List Int32} {q_face : List Int32} {q_worn : List Int32} {q_lastBend : List Int32} {q_names : List Int32} {q_bends : List Int32} {q_high : List Int32} {q_to : List Int32} {q_pileSize : List Int32} (g9_0 : gm_ch m_keptMany m_done m_limit m_changeWas m_changeIs) (g9_1 : gm_sh m_rowsOf m_columnsOf m_isKept m_imageRows m_imageColumns m_shapeRows m_shapeColumns m_row m_column m_below m_face m_worn m_lastBend) (g9_2 : gm_tx m_tapeMany m_textMany m_tape m_text m_names m_bends m_high m_to m_pileSize) (g9_3 : gm_pl m_planned m_planLine m_planWay) (hr_0 : rl_ge v_now_rows v_now_cols v_now_high v_now_wide v_now_folds v_now_rowOf v_now_colOf v_now_below v_now_face v_hasImage v_kept_rows v_kept_cols v_kept_high v_kept_wide v_kept_folds v_kept_rowOf v_kept_colOf v_kept_below v_kept_face m_rowsOf m_columnsOf m_folded m_isKept m_imageRows m_imageColumns m_imageFolded m_shapeRows m_shapeColumns m_row m_column m_below m_face) (e9 : fX9_cost 700 x1 m_rowsOf m_columnsOf m_textMany m_base m_at m_ends m_fault m_opened m_bentMany m_bentWrong m_moreWorn m_planned m_allWrong m_allWorn m_z m_limit m_shapeRows m_shapeColumns m_row m_column m_below m_face m_worn m_lastBend m_tape m_text m_names m_bends m_high m_to m_pileSize m_planLine m_planWay = some (r9, q_base, q_at, q_ends, q_fault, q_opened, q_bentMany, q_bentWrong, q_moreWorn, q_allWrong, q_allWorn, q_z, q_shapeRows, q_shapeColumns, q_row, q_column, q_below, q_face, q_worn, q_lastBend, q_names, q_bends, q_high, q_to, q_pileSize)) : rl_ge v_now_rows v_now_cols v_now_high v_now_wide v_now_folds v_now_rowOf v_now_colOf v_now_below v_now_face v_hasImage v_kept_rows v_kept_cols v_kept_high v_kept_wide v_kept_folds v_kept_rowOf v_kept_colOf v_kept_below v_kept_face m_rowsOf m_columnsOf m_folded m_isKept m_imageRows m_imageColumns m_imageFolded q_shapeRows q_shapeColumns q_row q_column q_below q_face := by
  have f9 := (wp_get (sg9_cost g9_0 g9_1 g9_2 g9_3) e9).1
  obtain ⟨z0, z1, z2, z3, z4, z5, z6, z7, z8, z9, -, -, -, z13⟩ := id g9_1
  obtain ⟨a1, a2, a3, a4, a5, a6⟩ := hr_0
  subst a1 a2
  have m32 := (i_fl z0 z1 z2 z3).2.2
  exact ⟨rfl, rfl, a3, a4, lg_6 (Or.inl rfl) z4 z5 z6 z7 z8 z9 m32 f9 a5, fun hk => by
    obtain ⟨b1, b2, b3, b4⟩ := a6 hk
    subst b1 b2
    have hk2 : ¬ (m_isKept = false) := by rw [a4, hk]; decide
    obtain ⟨c0, c1, c2, c3, -⟩ := z13 hk2
    exact ⟨rfl, rfl, b3, lg_6 (Or.inr rfl) z4 z5 z6 z7 z8 z9 (i_fl c0 c1 c2 c3).2.2 f9 b4⟩⟩
theorem fk_lies_ge {x1 : Int32} {x2 : Int32} {v_now_rows : Int32} {v_now_cols : Int32} {v_now_high : Int32} {v_now_wide : Int32} {v_now_folds : Int32} {v_now_rowOf : List Int32} {v_now_colOf : List Int32} {v_now_below : List Int32} {v_now_face : List Int32} {v_hasImage : Bool} {v_kept_rows : Int32} {v_kept_cols : Int32} {v_kept_high : Int32} {v_kept_wide : Int32} {v_kept_folds : Int32} {v_kept_rowOf : List Int32} {v_kept_colOf : List Int32} {v_kept_below : List Int32} {v_kept_face : List Int32} {m_rowsOf : Int32} {m_columnsOf : Int32} {m_textMany : Int32} {m_base : Int32} {m_at : Int32} {m_ends : Int32} {m_fault : Int32} {m_opened : Int32} {m_bentMany : Int32} {m_bentWrong : Int32} {m_moreWorn : Int32} {m_planned : Int32} {m_allWrong : Int32} {m_allWorn : Int32} {m_z : Int32} {m_limit : List Int32} {m_shapeRows : List Int32} {m_shapeColumns : List Int32} {m_row : List Int32} {m_column : List Int32} {m_below : List Int32} {m_face : List Int32} {m_worn : List Int32} {m_lastBend : List Int32} {m_tape : List Int32} {m_text : List Int32} {m_names : List Int32} {m_bends : List Int32} {m_high : List Int32} {m_to : List Int32} {m_pileSize : List Int32} {m_planLine : List Int32} {m_planWay : List Int32} {m_keptMany : Int32} {m_done : Int32} {m_changeWas : List Int32} {m_changeIs : List Int32} {m_isKept : Bool} {m_imageRows : Int32} {m_imageColumns : Int32} {m_tapeMany : Int32} {m_folded : Int32} {m_imageFolded : Int32} {r9 : Int32} {q_base : Int32} {q_at : Int32} {q_ends : Int32} {q_fault : Int32} {q_opened : Int32} {q_bentMany : Int32} {q_bentWrong : Int32} {q_moreWorn : Int32} {q_allWrong : Int32} {q_allWorn : Int32} {q_z : Int32} {q_shapeRows : List Int32} {q_shapeColumns : List Int32} {q_row : List Int32} {q_column : List Int32} {q_below : List Int32} {q_face : List Int32} {q_worn : List Int32} {q_lastBend : List Int32} {q_names : List Int32} {q_bends : List Int32} {q_high : List Int32} {q_to : List Int32} {q_pileSize : List Int32} (g9_0 : gm_ch m_keptMany m_done m_limit m_changeWas m_changeIs) (g9_1 : gm_sh m_rowsOf m_columnsOf m_isKept m_imageRows m_imageColumns m_shapeRows m_shapeColumns m_row m_column m_below m_face m_worn m_lastBend) (g9_2 : gm_tx m_tapeMany m_textMany m_tape m_text m_names m_bends m_high m_to m_pileSize) (g9_3 : gm_pl m_planned m_planLine m_planWay) (hr_0 : rl_ge v_now_rows v_now_cols v_now_high v_now_wide v_now_folds v_now_rowOf v_now_colOf v_now_below v_now_face v_hasImage v_kept_rows v_kept_cols v_kept_high v_kept_wide v_kept_folds v_kept_rowOf v_kept_colOf v_kept_below v_kept_face m_rowsOf m_columnsOf m_folded m_isKept m_imageRows m_imageColumns m_imageFolded m_shapeRows m_shapeColumns m_row m_column m_below m_face) (e9 : fX9_lies 700 x1 x2 m_rowsOf m_columnsOf m_textMany m_base m_at m_ends m_fault m_opened m_bentMany m_bentWrong m_moreWorn m_planned m_allWrong m_allWorn m_z m_limit m_shapeRows m_shapeColumns m_row m_column m_below m_face m_worn m_lastBend m_tape m_text m_names m_bends m_high m_to m_pileSize m_planLine m_planWay = some (r9, q_base, q_at, q_ends, q_fault, q_opened, q_bentMany, q_bentWrong, q_moreWorn, q_allWrong, q_allWorn, q_z, q_shapeRows, q_shapeColumns, q_row, q_column, q_below, q_face, q_worn, q_lastBend, q_names, q_bends, q_high, q_to, q_pileSize)) : rl_ge v_now_rows v_now_cols v_now_high v_now_wide v_now_folds v_now_rowOf v_now_colOf v_now_below v_now_face v_hasImage v_kept_rows v_kept_cols v_kept_high v_kept_wide v_kept_folds v_kept_rowOf v_kept_colOf v_kept_below v_kept_face m_rowsOf m_columnsOf m_folded m_isKept m_imageRows m_imageColumns m_imageFolded q_shapeRows q_shapeColumns q_row q_column q_below q_face := by
  have f9 := (wp_get (sg9_lies g9_0 g9_1 g9_2 g9_3) e9).1
  obtain ⟨z0, z1, z2, z3, z4, z5, z6, z7, z8, z9, -, -, -, z13⟩ := id g9_1
  obtain ⟨a1, a2, a3, a4, a5, a6⟩ := hr_0
  subst a1 a2
  have m32 := (i_fl z0 z1 z2 z3).2.2
  exact ⟨rfl, rfl, a3, a4, lg_6 (Or.inl rfl) z4 z5 z6 z7 z8 z9 m32 f9 a5, fun hk => by
    obtain ⟨b1, b2, b3, b4⟩ := a6 hk
    subst b1 b2
    have hk2 : ¬ (m_isKept = false) := by rw [a4, hk]; decide
    obtain ⟨c0, c1, c2, c3, -⟩ := z13 hk2
    exact ⟨rfl, rfl, b3, lg_6 (Or.inr rfl) z4 z5 z6 z7 z8 z9 (i_fl c0 c1 c2 c3).2.2 f9 b4⟩⟩
theorem fk_top_ge {x1 : Int32} {x2 : Int32} {v_now_rows : Int32} {v_now_cols : Int32} {v_now_high : Int32} {v_now_wide : Int32} {v_now_folds : Int32} {v_now_rowOf : List Int32} {v_now_colOf : List Int32} {v_now_below : List Int32} {v_now_face : List Int32} {v_hasImage : Bool} {v_kept_rows : Int32} {v_kept_cols : Int32} {v_kept_high : Int32} {v_kept_wide : Int32} {v_kept_folds : Int32} {v_kept_rowOf : List Int32} {v_kept_colOf : List Int32} {v_kept_below : List Int32} {v_kept_face : List Int32} {m_rowsOf : Int32} {m_columnsOf : Int32} {m_textMany : Int32} {m_base : Int32} {m_at : Int32} {m_ends : Int32} {m_fault : Int32} {m_opened : Int32} {m_bentMany : Int32} {m_bentWrong : Int32} {m_moreWorn : Int32} {m_planned : Int32} {m_allWrong : Int32} {m_allWorn : Int32} {m_z : Int32} {m_limit : List Int32} {m_shapeRows : List Int32} {m_shapeColumns : List Int32} {m_row : List Int32} {m_column : List Int32} {m_below : List Int32} {m_face : List Int32} {m_worn : List Int32} {m_lastBend : List Int32} {m_tape : List Int32} {m_text : List Int32} {m_names : List Int32} {m_bends : List Int32} {m_high : List Int32} {m_to : List Int32} {m_pileSize : List Int32} {m_planLine : List Int32} {m_planWay : List Int32} {m_keptMany : Int32} {m_done : Int32} {m_changeWas : List Int32} {m_changeIs : List Int32} {m_isKept : Bool} {m_imageRows : Int32} {m_imageColumns : Int32} {m_tapeMany : Int32} {m_folded : Int32} {m_imageFolded : Int32} {r9 : Int32} {q_base : Int32} {q_at : Int32} {q_ends : Int32} {q_fault : Int32} {q_opened : Int32} {q_bentMany : Int32} {q_bentWrong : Int32} {q_moreWorn : Int32} {q_allWrong : Int32} {q_allWorn : Int32} {q_z : Int32} {q_shapeRows : List Int32} {q_shapeColumns : List Int32} {q_row : List Int32} {q_column : List Int32} {q_below : List Int32} {q_face : List Int32} {q_worn : List Int32} {q_lastBend : List Int32} {q_names : List Int32} {q_bends : List Int32} {q_high : List Int32} {q_to : List Int32} {q_pileSize : List Int32} (g9_0 : gm_ch m_keptMany m_done m_limit m_changeWas m_changeIs) (g9_1 : gm_sh m_rowsOf m_columnsOf m_isKept m_imageRows m_imageColumns m_shapeRows m_shapeColumns m_row m_column m_below m_face m_worn m_lastBend) (g9_2 : gm_tx m_tapeMany m_textMany m_tape m_text m_names m_bends m_high m_to m_pileSize) (g9_3 : gm_pl m_planned m_planLine m_planWay) (hr_0 : rl_ge v_now_rows v_now_cols v_now_high v_now_wide v_now_folds v_now_rowOf v_now_colOf v_now_below v_now_face v_hasImage v_kept_rows v_kept_cols v_kept_high v_kept_wide v_kept_folds v_kept_rowOf v_kept_colOf v_kept_below v_kept_face m_rowsOf m_columnsOf m_folded m_isKept m_imageRows m_imageColumns m_imageFolded m_shapeRows m_shapeColumns m_row m_column m_below m_face) (e9 : fX9_top 700 x1 x2 m_rowsOf m_columnsOf m_textMany m_base m_at m_ends m_fault m_opened m_bentMany m_bentWrong m_moreWorn m_planned m_allWrong m_allWorn m_z m_limit m_shapeRows m_shapeColumns m_row m_column m_below m_face m_worn m_lastBend m_tape m_text m_names m_bends m_high m_to m_pileSize m_planLine m_planWay = some (r9, q_base, q_at, q_ends, q_fault, q_opened, q_bentMany, q_bentWrong, q_moreWorn, q_allWrong, q_allWorn, q_z, q_shapeRows, q_shapeColumns, q_row, q_column, q_below, q_face, q_worn, q_lastBend, q_names, q_bends, q_high, q_to, q_pileSize)) : rl_ge v_now_rows v_now_cols v_now_high v_now_wide v_now_folds v_now_rowOf v_now_colOf v_now_below v_now_face v_hasImage v_kept_rows v_kept_cols v_kept_high v_kept_wide v_kept_folds v_kept_rowOf v_kept_colOf v_kept_below v_kept_face m_rowsOf m_columnsOf m_folded m_isKept m_imageRows m_imageColumns m_imageFolded q_shapeRows q_shapeColumns q_row q_column q_below q_face := by
  have f9 := (wp_get (sg9_top g9_0 g9_1 g9_2 g9_3) e9).1
  obtain ⟨z0, z1, z2, z3, z4, z5, z6, z7, z8, z9, -, -, -, z13⟩ := id g9_1
  obtain ⟨a1, a2, a3, a4, a5, a6⟩ := hr_0
  subst a1 a2
  have m32 := (i_fl z0 z1 z2 z3).2.2
  exact ⟨rfl, rfl, a3, a4, lg_6 (Or.inl rfl) z4 z5 z6 z7 z8 z9 m32 f9 a5, fun hk => by
    obtain ⟨b1, b2, b3, b4⟩ := a6 hk
    subst b1 b2
    have hk2 : ¬ (m_isKept = false) := by rw [a4, hk]; decide
    obtain ⟨c0, c1, c2, c3, -⟩ := z13 hk2
    exact ⟨rfl, rfl, b3, lg_6 (Or.inr rfl) z4 z5 z6 z7 z8 z9 (i_fl c0 c1 c2 c3).2.2 f9 b4⟩⟩
theorem fk_beside_ge {x1 : Int32} {x2 : Int32} {v_now_rows : Int32} {v_now_cols : Int32} {v_now_high : Int32} {v_now_wide : Int32} {v_now_folds : Int32} {v_now_rowOf : List Int32} {v_now_colOf : List Int32} {v_now_below : List Int32} {v_now_face : List Int32} {v_hasImage : Bool} {v_kept_rows : Int32} {v_kept_cols : Int32} {v_kept_high : Int32} {v_kept_wide : Int32} {v_kept_folds : Int32} {v_kept_rowOf : List Int32} {v_kept_colOf : List Int32} {v_kept_below : List Int32} {v_kept_face : List Int32} {m_rowsOf : Int32} {m_columnsOf : Int32} {m_textMany : Int32} {m_base : Int32} {m_at : Int32} {m_ends : Int32} {m_fault : Int32} {m_opened : Int32} {m_bentMany : Int32} {m_bentWrong : Int32} {m_moreWorn : Int32} {m_planned : Int32} {m_allWrong : Int32} {m_allWorn : Int32} {m_z : Int32} {m_limit : List Int32} {m_shapeRows : List Int32} {m_shapeColumns : List Int32} {m_row : List Int32} {m_column : List Int32} {m_below : List Int32} {m_face : List Int32} {m_worn : List Int32} {m_lastBend : List Int32} {m_tape : List Int32} {m_text : List Int32} {m_names : List Int32} {m_bends : List Int32} {m_high : List Int32} {m_to : List Int32} {m_pileSize : List Int32} {m_planLine : List Int32} {m_planWay : List Int32} {m_keptMany : Int32} {m_done : Int32} {m_changeWas : List Int32} {m_changeIs : List Int32} {m_isKept : Bool} {m_imageRows : Int32} {m_imageColumns : Int32} {m_tapeMany : Int32} {m_folded : Int32} {m_imageFolded : Int32} {r9 : Int32} {q_base : Int32} {q_at : Int32} {q_ends : Int32} {q_fault : Int32} {q_opened : Int32} {q_bentMany : Int32} {q_bentWrong : Int32} {q_moreWorn : Int32} {q_allWrong : Int32} {q_allWorn : Int32} {q_z : Int32} {q_shapeRows : List Int32} {q_shapeColumns : List Int32} {q_row : List Int32} {q_column : List Int32} {q_below : List Int32} {q_face : List Int32} {q_worn : List Int32} {q_lastBend : List Int32} {q_names : List Int32} {q_bends : List Int32} {q_high : List Int32} {q_to : List Int32} {q_pileSize : List Int32} (g9_0 : gm_ch m_keptMany m_done m_limit m_changeWas m_changeIs) (g9_1 : gm_sh m_rowsOf m_columnsOf m_isKept m_imageRows m_imageColumns m_shapeRows m_shapeColumns m_row m_column m_below m_face m_worn m_lastBend) (g9_2 : gm_tx m_tapeMany m_textMany m_tape m_text m_names m_bends m_high m_to m_pileSize) (g9_3 : gm_pl m_planned m_planLine m_planWay) (hr_0 : rl_ge v_now_rows v_now_cols v_now_high v_now_wide v_now_folds v_now_rowOf v_now_colOf v_now_below v_now_face v_hasImage v_kept_rows v_kept_cols v_kept_high v_kept_wide v_kept_folds v_kept_rowOf v_kept_colOf v_kept_below v_kept_face m_rowsOf m_columnsOf m_folded m_isKept m_imageRows m_imageColumns m_imageFolded m_shapeRows m_shapeColumns m_row m_column m_below m_face) (e9 : fX9_beside 700 x1 x2 m_rowsOf m_columnsOf m_textMany m_base m_at m_ends m_fault m_opened m_bentMany m_bentWrong m_moreWorn m_planned m_allWrong m_allWorn m_z m_limit m_shapeRows m_shapeColumns m_row m_column m_below m_face m_worn m_lastBend m_tape m_text m_names m_bends m_high m_to m_pileSize m_planLine m_planWay = some (r9, q_base, q_at, q_ends, q_fault, q_opened, q_bentMany, q_bentWrong, q_moreWorn, q_allWrong, q_allWorn, q_z, q_shapeRows, q_shapeColumns, q_row, q_column, q_below, q_face, q_worn, q_lastBend, q_names, q_bends, q_high, q_to, q_pileSize)) : rl_ge v_now_rows v_now_cols v_now_high v_now_wide v_now_folds v_now_rowOf v_now_colOf v_now_below v_now_face v_hasImage v_kept_rows v_kept_cols v_kept_high v_kept_wide v_kept_folds v_kept_rowOf v_kept_colOf v_kept_below v_kept_face m_rowsOf m_columnsOf m_folded m_isKept m_imageRows m_imageColumns m_imageFolded q_shapeRows q_shapeColumns q_row q_column q_below q_face := by
  have f9 := (wp_get (sg9_beside g9_0 g9_1 g9_2 g9_3) e9).1
  obtain ⟨z0, z1, z2, z3, z4, z5, z6, z7, z8, z9, -, -, -, z13⟩ := id g9_1
  obtain ⟨a1, a2, a3, a4, a5, a6⟩ := hr_0
  subst a1 a2
  have m32 := (i_fl z0 z1 z2 z3).2.2
  exact ⟨rfl, rfl, a3, a4, lg_6 (Or.inl rfl) z4 z5 z6 z7 z8 z9 m32 f9 a5, fun hk => by
    obtain ⟨b1, b2, b3, b4⟩ := a6 hk
    subst b1 b2
    have hk2 : ¬ (m_isKept = false) := by rw [a4, hk]; decide
    obtain ⟨c0, c1, c2, c3, -⟩ := z13 hk2
    exact ⟨rfl, rfl, b3, lg_6 (Or.inr rfl) z4 z5 z6 z7 z8 z9 (i_fl c0 c1 c2 c3).2.2 f9 b4⟩⟩
theorem fk_wished_ge {x1 : Int32} {x2 : Int32} {v_now_rows : Int32} {v_now_cols : Int32} {v_now_high : Int32} {v_now_wide : Int32} {v_now_folds : Int32} {v_now_rowOf : List Int32} {v_now_colOf : List Int32} {v_now_below : List Int32} {v_now_face : List Int32} {v_hasImage : Bool} {v_kept_rows : Int32} {v_kept_cols : Int32} {v_kept_high : Int32} {v_kept_wide : Int32} {v_kept_folds : Int32} {v_kept_rowOf : List Int32} {v_kept_colOf : List Int32} {v_kept_below : List Int32} {v_kept_face : List Int32} {m_rowsOf : Int32} {m_columnsOf : Int32} {m_textMany : Int32} {m_base : Int32} {m_at : Int32} {m_ends : Int32} {m_fault : Int32} {m_opened : Int32} {m_bentMany : Int32} {m_bentWrong : Int32} {m_moreWorn : Int32} {m_wishedField : Int32} {m_isFound : Bool} {m_bestWrong : Int32} {m_bestWorn : Int32} {m_bestMany : Int32} {m_limit : List Int32} {m_shapeRows : List Int32} {m_shapeColumns : List Int32} {m_row : List Int32} {m_column : List Int32} {m_below : List Int32} {m_face : List Int32} {m_worn : List Int32} {m_lastBend : List Int32} {m_tape : List Int32} {m_text : List Int32} {m_names : List Int32} {m_bends : List Int32} {m_high : List Int32} {m_to : List Int32} {m_pileSize : List Int32} {m_way1 : List Int32} {m_bestWay : List Int32} {m_keptMany : Int32} {m_done : Int32} {m_changeWas : List Int32} {m_changeIs : List Int32} {m_isKept : Bool} {m_imageRows : Int32} {m_imageColumns : Int32} {m_tapeMany : Int32} {m_folded : Int32} {m_imageFolded : Int32} {r9 : Int32} {q_base : Int32} {q_at : Int32} {q_ends : Int32} {q_fault : Int32} {q_opened : Int32} {q_bentMany : Int32} {q_bentWrong : Int32} {q_moreWorn : Int32} {q_wishedField : Int32} {q_isFound : Bool} {q_bestWrong : Int32} {q_bestWorn : Int32} {q_bestMany : Int32} {q_shapeRows : List Int32} {q_shapeColumns : List Int32} {q_row : List Int32} {q_column : List Int32} {q_below : List Int32} {q_face : List Int32} {q_worn : List Int32} {q_lastBend : List Int32} {q_names : List Int32} {q_bends : List Int32} {q_high : List Int32} {q_to : List Int32} {q_pileSize : List Int32} {q_way1 : List Int32} {q_bestWay : List Int32} (g9_0 : gm_ch m_keptMany m_done m_limit m_changeWas m_changeIs) (g9_1 : gm_sh m_rowsOf m_columnsOf m_isKept m_imageRows m_imageColumns m_shapeRows m_shapeColumns m_row m_column m_below m_face m_worn m_lastBend) (g9_2 : gm_tx m_tapeMany m_textMany m_tape m_text m_names m_bends m_high m_to m_pileSize) (g9_3 : gm_se m_bestMany m_way1 m_bestWay) (hr_0 : rl_ge v_now_rows v_now_cols v_now_high v_now_wide v_now_folds v_now_rowOf v_now_colOf v_now_below v_now_face v_hasImage v_kept_rows v_kept_cols v_kept_high v_kept_wide v_kept_folds v_kept_rowOf v_kept_colOf v_kept_below v_kept_face m_rowsOf m_columnsOf m_folded m_isKept m_imageRows m_imageColumns m_imageFolded m_shapeRows m_shapeColumns m_row m_column m_below m_face) (e9 : fX9_wished 700 x1 x2 m_rowsOf m_columnsOf m_textMany m_base m_at m_ends m_fault m_opened m_bentMany m_bentWrong m_moreWorn m_wishedField m_isFound m_bestWrong m_bestWorn m_bestMany m_limit m_shapeRows m_shapeColumns m_row m_column m_below m_face m_worn m_lastBend m_tape m_text m_names m_bends m_high m_to m_pileSize m_way1 m_bestWay = some (r9, q_base, q_at, q_ends, q_fault, q_opened, q_bentMany, q_bentWrong, q_moreWorn, q_wishedField, q_isFound, q_bestWrong, q_bestWorn, q_bestMany, q_shapeRows, q_shapeColumns, q_row, q_column, q_below, q_face, q_worn, q_lastBend, q_names, q_bends, q_high, q_to, q_pileSize, q_way1, q_bestWay)) : rl_ge v_now_rows v_now_cols v_now_high v_now_wide v_now_folds v_now_rowOf v_now_colOf v_now_below v_now_face v_hasImage v_kept_rows v_kept_cols v_kept_high v_kept_wide v_kept_folds v_kept_rowOf v_kept_colOf v_kept_below v_kept_face m_rowsOf m_columnsOf m_folded m_isKept m_imageRows m_imageColumns m_imageFolded q_shapeRows q_shapeColumns q_row q_column q_below q_face := by
  have f9 := (wp_get (sg9_wished g9_0 g9_1 g9_2 g9_3) e9).1
  obtain ⟨z0, z1, z2, z3, z4, z5, z6, z7, z8, z9, -, -, -, z13⟩ := id g9_1
  obtain ⟨a1, a2, a3, a4, a5, a6⟩ := hr_0
  subst a1 a2
  have m32 := (i_fl z0 z1 z2 z3).2.2
  exact ⟨rfl, rfl, a3, a4, lg_6 (Or.inl rfl) z4 z5 z6 z7 z8 z9 m32 f9 a5, fun hk => by
    obtain ⟨b1, b2, b3, b4⟩ := a6 hk
    subst b1 b2
    have hk2 : ¬ (m_isKept = false) := by rw [a4, hk]; decide
    obtain ⟨c0, c1, c2, c3, -⟩ := z13 hk2
    exact ⟨rfl, rfl, b3, lg_6 (Or.inr rfl) z4 z5 z6 z7 z8 z9 (i_fl c0 c1 c2 c3).2.2 f9 b4⟩⟩
theorem fk_right_ge {x1 : Int32} {v_now_rows : Int32} {v_now_cols : Int32} {v_now_high : Int32} {v_now_wide : Int32} {v_now_folds : Int32} {v_now_rowOf : List Int32} {v_now_colOf : List Int32} {v_now_below : List Int32} {v_now_face : List Int32} {v_hasImage : Bool} {v_kept_rows : Int32} {v_kept_cols : Int32} {v_kept_high : Int32} {v_kept_wide : Int32} {v_kept_folds : Int32} {v_kept_rowOf : List Int32} {v_kept_colOf : List Int32} {v_kept_below : List Int32} {v_kept_face : List Int32} {m_rowsOf : Int32} {m_columnsOf : Int32} {m_textMany : Int32} {m_base : Int32} {m_at : Int32} {m_ends : Int32} {m_fault : Int32} {m_opened : Int32} {m_bentMany : Int32} {m_bentWrong : Int32} {m_moreWorn : Int32} {m_wishedField : Int32} {m_isFound : Bool} {m_bestWrong : Int32} {m_bestWorn : Int32} {m_bestMany : Int32} {m_limit : List Int32} {m_shapeRows : List Int32} {m_shapeColumns : List Int32} {m_row : List Int32} {m_column : List Int32} {m_below : List Int32} {m_face : List Int32} {m_worn : List Int32} {m_lastBend : List Int32} {m_tape : List Int32} {m_text : List Int32} {m_names : List Int32} {m_bends : List Int32} {m_high : List Int32} {m_to : List Int32} {m_pileSize : List Int32} {m_way1 : List Int32} {m_bestWay : List Int32} {m_keptMany : Int32} {m_done : Int32} {m_changeWas : List Int32} {m_changeIs : List Int32} {m_isKept : Bool} {m_imageRows : Int32} {m_imageColumns : Int32} {m_tapeMany : Int32} {m_folded : Int32} {m_imageFolded : Int32} {r9 : Int32} {q_base : Int32} {q_at : Int32} {q_ends : Int32} {q_fault : Int32} {q_opened : Int32} {q_bentMany : Int32} {q_bentWrong : Int32} {q_moreWorn : Int32} {q_wishedField : Int32} {q_isFound : Bool} {q_bestWrong : Int32} {q_bestWorn : Int32} {q_bestMany : Int32} {q_shapeRows : List Int32} {q_shapeColumns : List Int32} {q_row : List Int32} {q_column : List Int32} {q_below : List Int32} {q_face : List Int32} {q_worn : List Int32} {q_lastBend : List Int32} {q_names : List Int32} {q_bends : List Int32} {q_high : List Int32} {q_to : List Int32} {q_pileSize : List Int32} {q_way1 : List Int32} {q_bestWay : List Int32} (g9_0 : gm_ch m_keptMany m_done m_limit m_changeWas m_changeIs) (g9_1 : gm_sh m_rowsOf m_columnsOf m_isKept m_imageRows m_imageColumns m_shapeRows m_shapeColumns m_row m_column m_below m_face m_worn m_lastBend) (g9_2 : gm_tx m_tapeMany m_textMany m_tape m_text m_names m_bends m_high m_to m_pileSize) (g9_3 : gm_se m_bestMany m_way1 m_bestWay) (hr_0 : rl_ge v_now_rows v_now_cols v_now_high v_now_wide v_now_folds v_now_rowOf v_now_colOf v_now_below v_now_face v_hasImage v_kept_rows v_kept_cols v_kept_high v_kept_wide v_kept_folds v_kept_rowOf v_kept_colOf v_kept_below v_kept_face m_rowsOf m_columnsOf m_folded m_isKept m_imageRows m_imageColumns m_imageFolded m_shapeRows m_shapeColumns m_row m_column m_below m_face) (e9 : fX9_right 700 x1 m_rowsOf m_columnsOf m_textMany m_base m_at m_ends m_fault m_opened m_bentMany m_bentWrong m_moreWorn m_wishedField m_isFound m_bestWrong m_bestWorn m_bestMany m_limit m_shapeRows m_shapeColumns m_row m_column m_below m_face m_worn m_lastBend m_tape m_text m_names m_bends m_high m_to m_pileSize m_way1 m_bestWay = some (r9, q_base, q_at, q_ends, q_fault, q_opened, q_bentMany, q_bentWrong, q_moreWorn, q_wishedField, q_isFound, q_bestWrong, q_bestWorn, q_bestMany, q_shapeRows, q_shapeColumns, q_row, q_column, q_below, q_face, q_worn, q_lastBend, q_names, q_bends, q_high, q_to, q_pileSize, q_way1, q_bestWay)) : rl_ge v_now_rows v_now_cols v_now_high v_now_wide v_now_folds v_now_rowOf v_now_colOf v_now_below v_now_face v_hasImage v_kept_rows v_kept_cols v_kept_high v_kept_wide v_kept_folds v_kept_rowOf v_kept_colOf v_kept_below v_kept_face m_rowsOf m_columnsOf m_folded m_isKept m_imageRows m_imageColumns m_imageFolded q_shapeRows q_shapeColumns q_row q_column q_below q_face := by
  have f9 := (wp_get (sg9_right g9_0 g9_1 g9_2 g9_3) e9).1
  obtain ⟨z0, z1, z2, z3, z4, z5, z6, z7, z8, z9, -, -, -, z13⟩ := id g9_1
  obtain ⟨a1, a2, a3, a4, a5, a6⟩ := hr_0
  subst a1 a2
  have m32 := (i_fl z0 z1 z2 z3).2.2
  exact ⟨rfl, rfl, a3, a4, lg_6 (Or.inl rfl) z4 z5 z6 z7 z8 z9 m32 f9 a5, fun hk => by
    obtain ⟨b1, b2, b3, b4⟩ := a6 hk
    subst b1 b2
    have hk2 : ¬ (m_isKept = false) := by rw [a4, hk]; decide
    obtain ⟨c0, c1, c2, c3, -⟩ := z13 hk2
    exact ⟨rfl, rfl, b3, lg_6 (Or.inr rfl) z4 z5 z6 z7 z8 z9 (i_fl c0 c1 c2 c3).2.2 f9 b4⟩⟩
theorem fk_wind_ge {x1 : Int32} {x2 : Int32} {x3 : Int32} {v_now_rows : Int32} {v_now_cols : Int32} {v_now_high : Int32} {v_now_wide : Int32} {v_now_folds : Int32} {v_now_rowOf : List Int32} {v_now_colOf : List Int32} {v_now_below : List Int32} {v_now_face : List Int32} {v_hasImage : Bool} {v_kept_rows : Int32} {v_kept_cols : Int32} {v_kept_high : Int32} {v_kept_wide : Int32} {v_kept_folds : Int32} {v_kept_rowOf : List Int32} {v_kept_colOf : List Int32} {v_kept_below : List Int32} {v_kept_face : List Int32} {m_rowsOf : Int32} {m_columnsOf : Int32} {m_textMany : Int32} {m_base : Int32} {m_at : Int32} {m_ends : Int32} {m_fault : Int32} {m_opened : Int32} {m_bentMany : Int32} {m_bentWrong : Int32} {m_moreWorn : Int32} {m_planned : Int32} {m_allWrong : Int32} {m_allWorn : Int32} {m_z : Int32} {m_limit : List Int32} {m_shapeRows : List Int32} {m_shapeColumns : List Int32} {m_row : List Int32} {m_column : List Int32} {m_below : List Int32} {m_face : List Int32} {m_worn : List Int32} {m_lastBend : List Int32} {m_tape : List Int32} {m_text : List Int32} {m_names : List Int32} {m_bends : List Int32} {m_high : List Int32} {m_to : List Int32} {m_pileSize : List Int32} {m_planLine : List Int32} {m_planWay : List Int32} {m_keptMany : Int32} {m_done : Int32} {m_changeWas : List Int32} {m_changeIs : List Int32} {m_isKept : Bool} {m_imageRows : Int32} {m_imageColumns : Int32} {m_tapeMany : Int32} {m_folded : Int32} {m_imageFolded : Int32} {r9 : Int32} {q_base : Int32} {q_at : Int32} {q_ends : Int32} {q_fault : Int32} {q_opened : Int32} {q_bentMany : Int32} {q_bentWrong : Int32} {q_moreWorn : Int32} {q_allWrong : Int32} {q_allWorn : Int32} {q_z : Int32} {q_shapeRows : List Int32} {q_shapeColumns : List Int32} {q_row : List Int32} {q_column : List Int32} {q_below : List Int32} {q_face : List Int32} {q_worn : List Int32} {q_lastBend : List Int32} {q_names : List Int32} {q_bends : List Int32} {q_high : List Int32} {q_to : List Int32} {q_pileSize : List Int32} (g9_0 : gm_ch m_keptMany m_done m_limit m_changeWas m_changeIs) (g9_1 : gm_sh m_rowsOf m_columnsOf m_isKept m_imageRows m_imageColumns m_shapeRows m_shapeColumns m_row m_column m_below m_face m_worn m_lastBend) (g9_2 : gm_tx m_tapeMany m_textMany m_tape m_text m_names m_bends m_high m_to m_pileSize) (g9_3 : gm_pl m_planned m_planLine m_planWay) (hr_0 : rl_ge v_now_rows v_now_cols v_now_high v_now_wide v_now_folds v_now_rowOf v_now_colOf v_now_below v_now_face v_hasImage v_kept_rows v_kept_cols v_kept_high v_kept_wide v_kept_folds v_kept_rowOf v_kept_colOf v_kept_below v_kept_face m_rowsOf m_columnsOf m_folded m_isKept m_imageRows m_imageColumns m_imageFolded m_shapeRows m_shapeColumns m_row m_column m_below m_face) (e9 : fX9_wind 700 x1 x2 x3 m_rowsOf m_columnsOf m_textMany m_base m_at m_ends m_fault m_opened m_bentMany m_bentWrong m_moreWorn m_planned m_allWrong m_allWorn m_z m_limit m_shapeRows m_shapeColumns m_row m_column m_below m_face m_worn m_lastBend m_tape m_text m_names m_bends m_high m_to m_pileSize m_planLine m_planWay = some (r9, q_base, q_at, q_ends, q_fault, q_opened, q_bentMany, q_bentWrong, q_moreWorn, q_allWrong, q_allWorn, q_z, q_shapeRows, q_shapeColumns, q_row, q_column, q_below, q_face, q_worn, q_lastBend, q_names, q_bends, q_high, q_to, q_pileSize)) : rl_ge v_now_rows v_now_cols v_now_high v_now_wide v_now_folds v_now_rowOf v_now_colOf v_now_below v_now_face v_hasImage v_kept_rows v_kept_cols v_kept_high v_kept_wide v_kept_folds v_kept_rowOf v_kept_colOf v_kept_below v_kept_face m_rowsOf m_columnsOf m_folded m_isKept m_imageRows m_imageColumns m_imageFolded q_shapeRows q_shapeColumns q_row q_column q_below q_face := by
  have f9 := (wp_get (sg9_wind g9_0 g9_1 g9_2 g9_3) e9).1
  obtain ⟨z0, z1, z2, z3, z4, z5, z6, z7, z8, z9, -, -, -, z13⟩ := id g9_1
  obtain ⟨a1, a2, a3, a4, a5, a6⟩ := hr_0
  subst a1 a2
  have m32 := (i_fl z0 z1 z2 z3).2.2
  exact ⟨rfl, rfl, a3, a4, lg_6 (Or.inl rfl) z4 z5 z6 z7 z8 z9 m32 f9 a5, fun hk => by
    obtain ⟨b1, b2, b3, b4⟩ := a6 hk
    subst b1 b2
    have hk2 : ¬ (m_isKept = false) := by rw [a4, hk]; decide
    obtain ⟨c0, c1, c2, c3, -⟩ := z13 hk2
    exact ⟨rfl, rfl, b3, lg_6 (Or.inr rfl) z4 z5 z6 z7 z8 z9 (i_fl c0 c1 c2 c3).2.2 f9 b4⟩⟩
end
section
/-! The geometry kept: sheet, fold, flat, image, back -/
set_option maxHeartbeats 4000000 in
set_option maxRecDepth 20000 in
theorem rs_sheet_ge {x1 : Int32} {v_now_rows : Int32} {v_now_cols : Int32} {v_now_high : Int32} {v_now_wide : Int32} {v_now_folds : Int32} {v_now_wrong : Int32} {v_now_more : Int32} {v_now_rowOf : List Int32} {v_now_colOf : List Int32} {v_now_below : List Int32} {v_now_face : List Int32} {v_now_worn : List Int32} {v_now_last : List Int32} {v_now_bend : List Int32} {v_now_tall : List Int32} {v_hasImage : Bool} {v_kept_rows : Int32} {v_kept_cols : Int32} {v_kept_high : Int32} {v_kept_wide : Int32} {v_kept_folds : Int32} {v_kept_rowOf : List Int32} {v_kept_colOf : List Int32} {v_kept_below : List Int32} {v_kept_face : List Int32} {m_rowsOf : Int32} {m_columnsOf : Int32} {m_folded : Int32} {m_wronged : Int32} {m_shapeRows : List Int32} {m_shapeColumns : List Int32} {m_row : List Int32} {m_column : List Int32} {m_below : List Int32} {m_face : List Int32} {m_worn : List Int32} {m_lastBend : List Int32} {m_isKept : Bool} {m_imageRows : Int32} {m_imageColumns : Int32} {m_imageFolded : Int32} (g8_0 : gi_sh v_now_rows v_now_cols v_now_high v_now_wide v_now_rowOf v_now_colOf v_now_below v_now_face v_now_worn v_now_last v_now_bend v_now_tall) (g9_0 : gm_sh m_rowsOf m_columnsOf m_isKept m_imageRows m_imageColumns m_shapeRows m_shapeColumns m_row m_column m_below m_face m_worn m_lastBend) (hr_0 : rl_ge v_now_rows v_now_cols v_now_high v_now_wide v_now_folds v_now_rowOf v_now_colOf v_now_below v_now_face v_hasImage v_kept_rows v_kept_cols v_kept_high v_kept_wide v_kept_folds v_kept_rowOf v_kept_colOf v_kept_below v_kept_face m_rowsOf m_columnsOf m_folded m_isKept m_imageRows m_imageColumns m_imageFolded m_shapeRows m_shapeColumns m_row m_column m_below m_face) : ∃ (r8 : Int32) (p_now_rows : Int32) (p_now_cols : Int32) (p_now_high : Int32) (p_now_wide : Int32) (p_now_folds : Int32) (p_now_wrong : Int32) (p_now_more : Int32) (p_now_rowOf : List Int32) (p_now_colOf : List Int32) (p_now_below : List Int32) (p_now_face : List Int32) (p_now_worn : List Int32) (p_now_last : List Int32) (r9 : Int32) (q_rowsOf : Int32) (q_columnsOf : Int32) (q_folded : Int32) (q_wronged : Int32) (q_shapeRows : List Int32) (q_shapeColumns : List Int32) (q_row : List Int32) (q_column : List Int32) (q_below : List Int32) (q_face : List Int32) (q_worn : List Int32) (q_lastBend : List Int32), fX8_sheet 700 x1 v_now_rows v_now_cols v_now_high v_now_wide v_now_folds v_now_wrong v_now_more v_now_rowOf v_now_colOf v_now_below v_now_face v_now_worn v_now_last = some (r8, p_now_rows, p_now_cols, p_now_high, p_now_wide, p_now_folds, p_now_wrong, p_now_more, p_now_rowOf, p_now_colOf, p_now_below, p_now_face, p_now_worn, p_now_last) ∧ fX9_sheet 700 x1 m_rowsOf m_columnsOf m_folded m_wronged m_shapeRows m_shapeColumns m_row m_column m_below m_face m_worn m_lastBend = some (r9, q_rowsOf, q_columnsOf, q_folded, q_wronged, q_shapeRows, q_shapeColumns, q_row, q_column, q_below, q_face, q_worn, q_lastBend) ∧ gi_sh p_now_rows p_now_cols p_now_high p_now_wide p_now_rowOf p_now_colOf p_now_below p_now_face p_now_worn p_now_last v_now_bend v_now_tall ∧ gm_sh q_rowsOf q_columnsOf m_isKept m_imageRows m_imageColumns q_shapeRows q_shapeColumns q_row q_column q_below q_face q_worn q_lastBend ∧ rl_ge p_now_rows p_now_cols p_now_high p_now_wide p_now_folds p_now_rowOf p_now_colOf p_now_below p_now_face v_hasImage v_kept_rows v_kept_cols v_kept_high v_kept_wide v_kept_folds v_kept_rowOf v_kept_colOf v_kept_below v_kept_face q_rowsOf q_columnsOf q_folded m_isKept m_imageRows m_imageColumns m_imageFolded q_shapeRows q_shapeColumns q_row q_column q_below q_face := by
  obtain ⟨⟨r8, p_now_rows, p_now_cols, p_now_high, p_now_wide, p_now_folds, p_now_wrong, p_now_more, p_now_rowOf, p_now_colOf, p_now_below, p_now_face, p_now_worn, p_now_last⟩, e8, -⟩ := st8_sheet (x1 := x1) (v_now_folds := v_now_folds) (v_now_wrong := v_now_wrong) (v_now_more := v_now_more) g8_0
  obtain ⟨⟨r9, q_rowsOf, q_columnsOf, q_folded, q_wronged, q_shapeRows, q_shapeColumns, q_row, q_column, q_below, q_face, q_worn, q_lastBend⟩, e9, -⟩ := st9_sheet (x1 := x1) (v_folded := m_folded) (v_wronged := m_wronged) g9_0
  have k8 := wp_get (st8_sheet g8_0) e8
  have k9 := wp_get (st9_sheet g9_0) e9
  obtain ⟨a0, a1, a2, a3, a4, a5, a6, a7, a8, a9, a10, a11, a12, a13, a14, a15, a16, a17⟩ := id g8_0
  obtain ⟨z0, z1, z2, z3, z4, z5, z6, z7, z8, z9, z10, z11, z12, z13⟩ := id g9_0
  have n0 : (0 : Int32).toInt = 0 := by decide
  have n5 : (5 : Int32).toInt = 5 := by decide
  have y0 : (0 : Int32).toInt.toNat = 0 := by decide
  have y5 : (5 : Int32).toInt.toNat = 5 := by decide
  obtain ⟨b1, b2, b3, b4, b5, b6⟩ := hr_0
  have R : rl_ge p_now_rows p_now_cols p_now_high p_now_wide p_now_folds p_now_rowOf p_now_colOf p_now_below p_now_face v_hasImage v_kept_rows v_kept_cols v_kept_high v_kept_wide v_kept_folds v_kept_rowOf v_kept_colOf v_kept_below v_kept_face q_rowsOf q_columnsOf q_folded m_isKept m_imageRows m_imageColumns m_imageFolded q_shapeRows q_shapeColumns q_row q_column q_below q_face := by
    rcases st_8 a8 a9 a10 a11 a12 a13 e8 with ⟨o8, h8⟩ | ⟨o8, h8⟩
    · rcases st_9 z6 z7 z8 z9 z10 z11 e9 with ⟨o9, h9⟩ | ⟨o9, h9⟩
      · obtain ⟨c1, c2, c3, c4, c5, c6, c7, c8, c9, c10, c11, c12, c13, c14⟩ := h8
        obtain ⟨d1, d2, d3, d4, d5, d6, d7, d8, d9, d10, d11, d12, d13⟩ := h9
        subst c2 c3 c4 c5 c6 c9 c10 c11 c12 d2 d3 d4 d6 d7 d8 d9 d10 d11
        exact ⟨b1, b2, b3, b4, b5, b6⟩
      · exact absurd o9 o8
    · rcases st_9 z6 z7 z8 z9 z10 z11 e9 with ⟨o9, h9⟩ | ⟨o9, h9⟩
      · exact absurd o8 o9
      · obtain ⟨c1, c2, c3, c4, c5, c6, c7, c8, c9, c10⟩ := h8
        obtain ⟨d1, d2, d3, d4, d5, d6, d7, d8, d9, d10, d11⟩ := h9
        rw [c2, c3, c4, c5, c6, d2, d3, d4, d6, d7]
        refine ⟨rfl, rfl, rfl, b4, ⟨?_, ?_, fl_x c9 d9⟩, fun hk => ?_⟩
        · rw [ge_is _ _ _ _ (by omega), y0, if_pos rfl]
        · rw [ge_is _ _ _ _ (by omega), y0, if_pos rfl]
        · obtain ⟨f1, f2, f3, f4⟩ := b6 hk
          subst f1 f2
          have hk2 : ¬ (m_isKept = false) := by rw [b4, hk]; decide
          obtain ⟨u0, u1, u2, u3, -⟩ := z13 hk2
          refine ⟨rfl, rfl, f3, lg_t f4 (i_fl u0 u1 u2 u3).2.2 ?_ ?_ (fun j j0 j1 => d8 j (by omega) (by omega))⟩
          · rw [ge_is _ _ _ _ (by omega), y0, if_neg (by decide)]
          · rw [ge_is _ _ _ _ (by omega), y0, if_neg (by decide)]
  exact ⟨_, _, _, _, _, _, _, _, _, _, _, _, _, _, _, _, _, _, _, _, _, _, _, _, _, _, _, e8, e9, k8, k9, R⟩
set_option maxHeartbeats 4000000 in
set_option maxRecDepth 20000 in
theorem rs_fold_ge {x1 : Int32} {x2 : Int32} {v_now_rows : Int32} {v_now_cols : Int32} {v_now_high : Int32} {v_now_wide : Int32} {v_now_folds : Int32} {v_now_wrong : Int32} {v_now_more : Int32} {v_now_rowOf : List Int32} {v_now_colOf : List Int32} {v_now_below : List Int32} {v_now_face : List Int32} {v_now_worn : List Int32} {v_now_last : List Int32} {v_now_bend : List Int32} {v_now_tall : List Int32} {v_wearing_stepCount : Int32} {v_wearing_stacked : Int32} {v_wearing_steps : List Int32} {v_wearing_stack : List Int32} {v_changes_value : Int32} {v_wearing_size : Int32} {v_wearing_draftCount : Int32} {v_wearing_tape : List Int32} {v_wearing_draft : List Int32} {v_hasImage : Bool} {v_kept_rows : Int32} {v_kept_cols : Int32} {v_kept_high : Int32} {v_kept_wide : Int32} {v_kept_folds : Int32} {v_kept_rowOf : List Int32} {v_kept_colOf : List Int32} {v_kept_below : List Int32} {v_kept_face : List Int32} {m_rowsOf : Int32} {m_columnsOf : Int32} {m_folded : Int32} {m_wronged : Int32} {m_textMany : Int32} {m_base : Int32} {m_at : Int32} {m_ends : Int32} {m_fault : Int32} {m_opened : Int32} {m_bentMany : Int32} {m_bentWrong : Int32} {m_moreWorn : Int32} {m_limit : List Int32} {m_shapeRows : List Int32} {m_shapeColumns : List Int32} {m_row : List Int32} {m_column : List Int32} {m_below : List Int32} {m_face : List Int32} {m_worn : List Int32} {m_lastBend : List Int32} {m_tape : List Int32} {m_text : List Int32} {m_names : List Int32} {m_bends : List Int32} {m_high : List Int32} {m_to : List Int32} {m_pileSize : List Int32} {m_keptMany : Int32} {m_done : Int32} {m_changeWas : List Int32} {m_changeIs : List Int32} {m_isKept : Bool} {m_imageRows : Int32} {m_imageColumns : Int32} {m_tapeMany : Int32} {m_imageFolded : Int32} (g8_0 : gi_sh v_now_rows v_now_cols v_now_high v_now_wide v_now_rowOf v_now_colOf v_now_below v_now_face v_now_worn v_now_last v_now_bend v_now_tall) (g8_1 : gi_la v_wearing_size v_wearing_stepCount v_wearing_draftCount v_wearing_tape v_wearing_steps v_wearing_draft v_wearing_stack) (g9_0 : gm_ch m_keptMany m_done m_limit m_changeWas m_changeIs) (g9_1 : gm_sh m_rowsOf m_columnsOf m_isKept m_imageRows m_imageColumns m_shapeRows m_shapeColumns m_row m_column m_below m_face m_worn m_lastBend) (g9_2 : gm_tx m_tapeMany m_textMany m_tape m_text m_names m_bends m_high m_to m_pileSize) (hr_0 : rl_ge v_now_rows v_now_cols v_now_high v_now_wide v_now_folds v_now_rowOf v_now_colOf v_now_below v_now_face v_hasImage v_kept_rows v_kept_cols v_kept_high v_kept_wide v_kept_folds v_kept_rowOf v_kept_colOf v_kept_below v_kept_face m_rowsOf m_columnsOf m_folded m_isKept m_imageRows m_imageColumns m_imageFolded m_shapeRows m_shapeColumns m_row m_column m_below m_face) : ∃ (r8 : Int32) (p_now_high : Int32) (p_now_wide : Int32) (p_now_folds : Int32) (p_now_wrong : Int32) (p_now_more : Int32) (p_now_rowOf : List Int32) (p_now_colOf : List Int32) (p_now_below : List Int32) (p_now_face : List Int32) (p_now_worn : List Int32) (p_now_last : List Int32) (p_now_bend : List Int32) (p_now_tall : List Int32) (p_wearing_stacked : Int32) (p_wearing_stack : List Int32) (r9 : Int32) (q_folded : Int32) (q_wronged : Int32) (q_base : Int32) (q_at : Int32) (q_ends : Int32) (q_fault : Int32) (q_opened : Int32) (q_bentMany : Int32) (q_bentWrong : Int32) (q_moreWorn : Int32) (q_shapeRows : List Int32) (q_shapeColumns : List Int32) (q_row : List Int32) (q_column : List Int32) (q_below : List Int32) (q_face : List Int32) (q_worn : List Int32) (q_lastBend : List Int32) (q_names : List Int32) (q_bends : List Int32) (q_high : List Int32) (q_to : List Int32) (q_pileSize : List Int32), fX8_fold 700 x1 x2 v_now_rows v_now_cols v_now_high v_now_wide v_now_folds v_now_wrong v_now_more v_now_rowOf v_now_colOf v_now_below v_now_face v_now_worn v_now_last v_now_bend v_now_tall v_wearing_stepCount v_wearing_stacked v_wearing_steps v_wearing_stack v_changes_value = some (r8, p_now_high, p_now_wide, p_now_folds, p_now_wrong, p_now_more, p_now_rowOf, p_now_colOf, p_now_below, p_now_face, p_now_worn, p_now_last, p_now_bend, p_now_tall, p_wearing_stacked, p_wearing_stack) ∧ fX9_fold 700 x1 x2 m_rowsOf m_columnsOf m_folded m_wronged m_textMany m_base m_at m_ends m_fault m_opened m_bentMany m_bentWrong m_moreWorn m_limit m_shapeRows m_shapeColumns m_row m_column m_below m_face m_worn m_lastBend m_tape m_text m_names m_bends m_high m_to m_pileSize = some (r9, q_folded, q_wronged, q_base, q_at, q_ends, q_fault, q_opened, q_bentMany, q_bentWrong, q_moreWorn, q_shapeRows, q_shapeColumns, q_row, q_column, q_below, q_face, q_worn, q_lastBend, q_names, q_bends, q_high, q_to, q_pileSize) ∧ gi_sh v_now_rows v_now_cols p_now_high p_now_wide p_now_rowOf p_now_colOf p_now_below p_now_face p_now_worn p_now_last p_now_bend p_now_tall ∧ gi_la v_wearing_size v_wearing_stepCount v_wearing_draftCount v_wearing_tape v_wearing_steps v_wearing_draft p_wearing_stack ∧ gm_sh m_rowsOf m_columnsOf m_isKept m_imageRows m_imageColumns q_shapeRows q_shapeColumns q_row q_column q_below q_face q_worn q_lastBend ∧ gm_tx m_tapeMany m_textMany m_tape m_text q_names q_bends q_high q_to q_pileSize ∧ rl_ge v_now_rows v_now_cols p_now_high p_now_wide p_now_folds p_now_rowOf p_now_colOf p_now_below p_now_face v_hasImage v_kept_rows v_kept_cols v_kept_high v_kept_wide v_kept_folds v_kept_rowOf v_kept_colOf v_kept_below v_kept_face m_rowsOf m_columnsOf q_folded m_isKept m_imageRows m_imageColumns m_imageFolded q_shapeRows q_shapeColumns q_row q_column q_below q_face := by
  obtain ⟨⟨r8, p_now_high, p_now_wide, p_now_folds, p_now_wrong, p_now_more, p_now_rowOf, p_now_colOf, p_now_below, p_now_face, p_now_worn, p_now_last, p_now_bend, p_now_tall, p_wearing_stacked, p_wearing_stack⟩, e8, -⟩ := st8_fold (x1 := x1) (x2 := x2) (v_now_folds := v_now_folds) (v_now_wrong := v_now_wrong) (v_now_more := v_now_more) (v_wearing_stacked := v_wearing_stacked) (v_changes_value := v_changes_value) g8_0 g8_1
  obtain ⟨⟨r9, q_folded, q_wronged, q_base, q_at, q_ends, q_fault, q_opened, q_bentMany, q_bentWrong, q_moreWorn, q_shapeRows, q_shapeColumns, q_row, q_column, q_below, q_face, q_worn, q_lastBend, q_names, q_bends, q_high, q_to, q_pileSize⟩, e9, -⟩ := st9_fold (x1 := x1) (x2 := x2) (v_folded := m_folded) (v_wronged := m_wronged) (v_base := m_base) (v_at := m_at) (v_ends := m_ends) (v_fault := m_fault) (v_opened := m_opened) (v_bentMany := m_bentMany) (v_bentWrong := m_bentWrong) (v_moreWorn := m_moreWorn) g9_0 g9_1 g9_2
  have k8 := wp_get (st8_fold g8_0 g8_1) e8
  have k9 := wp_get (st9_fold g9_0 g9_1 g9_2) e9
  obtain ⟨a0, a1, a2, a3, a4, a5, a6, a7, a8, a9, a10, a11, a12, a13, a14, a15, a16, a17⟩ := id g8_0
  obtain ⟨z0, z1, z2, z3, z4, z5, z6, z7, z8, z9, z10, z11, z12, z13⟩ := id g9_1
  obtain ⟨t0, t1, t2, t3, t4, t5, t6, t7, t8, t9, t10⟩ := id g9_2
  have n0 : (0 : Int32).toInt = 0 := by decide
  have n5 : (5 : Int32).toInt = 5 := by decide
  have y0 : (0 : Int32).toInt.toNat = 0 := by decide
  have y5 : (5 : Int32).toInt.toNat = 5 := by decide
  obtain ⟨b1, b2, b3, b4, b5, b6⟩ := hr_0
  subst b1 b2
  have hf := i_fl z0 z1 z2 z3
  obtain ⟨l1, l2, l3⟩ := id b5
  have g1 : mm_ig m_shapeRows (0 : Int32) = v_now_high := by rw [ge_ig, y0]; exact l1
  have g2 : mm_ig m_shapeColumns (0 : Int32) = v_now_wide := by rw [ge_ig, y0]; exact l2
  have R : rl_ge m_rowsOf m_columnsOf p_now_high p_now_wide p_now_folds p_now_rowOf p_now_colOf p_now_below p_now_face v_hasImage v_kept_rows v_kept_cols v_kept_high v_kept_wide v_kept_folds v_kept_rowOf v_kept_colOf v_kept_below v_kept_face m_rowsOf m_columnsOf q_folded m_isKept m_imageRows m_imageColumns m_imageFolded q_shapeRows q_shapeColumns q_row q_column q_below q_face := by
    rcases fo_8 e8 with ⟨o8, h8⟩ | ⟨o8, h8⟩
    · rcases fo_9 z4 z5 g1 g2 ⟨a4, a5⟩ ⟨a6, a7⟩ e9 with ⟨o9, h9⟩ | ⟨o9, h9⟩
      · obtain ⟨c1, c2, c3, c4, c5, c6, c7⟩ := h8
        obtain ⟨d1, d2, d3, d4, d5, d6, d7⟩ := h9
        subst c1 c2 c3 c4 c5 c6 c7 d1 d2 d3 d4 d5 d6 d7
        exact ⟨rfl, rfl, b3, b4, b5, b6⟩
      · exact absurd o9 o8
    · rcases fo_9 z4 z5 g1 g2 ⟨a4, a5⟩ ⟨a6, a7⟩ e9 with ⟨o9, h9⟩ | ⟨o9, h9⟩
      · exact absurd o8 o9
      · obtain ⟨c1, c2⟩ := h8
        obtain ⟨d1, d2⟩ := h9
        have q := tr_e (m := (m_rowsOf.toInt * m_columnsOf.toInt).toNat) (lv := (0 : Int32)) (by omega) (by omega) (by omega) (by omega) o8.1.1 o8.1.2 a8 a9 a10 a11 a15 z6 z7 z8 z9 t8 t9 t10 z4 z5 ⟨a4, a5⟩ ⟨a6, a7⟩ (fun k hk => zn_n a16 (by omega) (by omega) (by omega)) (fun k hk => zn_n a17 (by omega) (by omega) (by omega)) g1 g2 (by rw [y0]; exact l3) c2 d2
        rw [ge_ig, ge_ig, y0, Nat.mul_zero] at q
        obtain ⟨q1, q2, q3, q4, q5, -⟩ := q
        refine ⟨rfl, rfl, by rw [c1, d1, b3], b4, ⟨q1, q2, q3⟩, fun hk => ?_⟩
        obtain ⟨f1, f2, f3, f4⟩ := b6 hk
        subst f1 f2
        have hk2 : ¬ (m_isKept = false) := by rw [b4, hk]; decide
        obtain ⟨u0, u1, u2, u3, -⟩ := z13 hk2
        exact ⟨rfl, rfl, f3, lg_t f4 (i_fl u0 u1 u2 u3).2.2 (q5 5 (by omega) (by omega)).1 (q5 5 (by omega) (by omega)).2 (fun j j0 j1 => q4 j (by omega) (by omega))⟩
  exact ⟨_, _, _, _, _, _, _, _, _, _, _, _, _, _, _, _, _, _, _, _, _, _, _, _, _, _, _, _, _, _, _, _, _, _, _, _, _, _, _, _, e8, e9, k8.1, k8.2, k9.1, k9.2, R⟩
set_option maxHeartbeats 4000000 in
set_option maxRecDepth 20000 in
theorem rs_flat_ge {v_now_rows : Int32} {v_now_cols : Int32} {v_now_high : Int32} {v_now_wide : Int32} {v_now_rowOf : List Int32} {v_now_colOf : List Int32} {v_now_below : List Int32} {v_now_face : List Int32} {v_now_worn : List Int32} {v_now_last : List Int32} {v_now_bend : List Int32} {v_now_tall : List Int32} {v_now_folds : Int32} {v_hasImage : Bool} {v_kept_rows : Int32} {v_kept_cols : Int32} {v_kept_high : Int32} {v_kept_wide : Int32} {v_kept_folds : Int32} {v_kept_rowOf : List Int32} {v_kept_colOf : List Int32} {v_kept_below : List Int32} {v_kept_face : List Int32} {m_rowsOf : Int32} {m_columnsOf : Int32} {m_shapeRows : List Int32} {m_shapeColumns : List Int32} {m_row : List Int32} {m_column : List Int32} {m_below : List Int32} {m_face : List Int32} {m_isKept : Bool} {m_imageRows : Int32} {m_imageColumns : Int32} {m_worn : List Int32} {m_lastBend : List Int32} {m_folded : Int32} {m_imageFolded : Int32} (g8_0 : gi_sh v_now_rows v_now_cols v_now_high v_now_wide v_now_rowOf v_now_colOf v_now_below v_now_face v_now_worn v_now_last v_now_bend v_now_tall) (g9_0 : gm_sh m_rowsOf m_columnsOf m_isKept m_imageRows m_imageColumns m_shapeRows m_shapeColumns m_row m_column m_below m_face m_worn m_lastBend) (hr_0 : rl_ge v_now_rows v_now_cols v_now_high v_now_wide v_now_folds v_now_rowOf v_now_colOf v_now_below v_now_face v_hasImage v_kept_rows v_kept_cols v_kept_high v_kept_wide v_kept_folds v_kept_rowOf v_kept_colOf v_kept_below v_kept_face m_rowsOf m_columnsOf m_folded m_isKept m_imageRows m_imageColumns m_imageFolded m_shapeRows m_shapeColumns m_row m_column m_below m_face) : ∃ (r : Int32) (p_now_high : Int32) (p_now_wide : Int32) (p_now_rowOf : List Int32) (p_now_colOf : List Int32) (p_now_below : List Int32) (p_now_face : List Int32) (q_shapeRows : List Int32) (q_shapeColumns : List Int32) (q_row : List Int32) (q_column : List Int32) (q_below : List Int32) (q_face : List Int32), fX8_flat 700 v_now_rows v_now_cols v_now_high v_now_wide v_now_rowOf v_now_colOf v_now_below v_now_face = some (r, p_now_high, p_now_wide, p_now_rowOf, p_now_colOf, p_now_below, p_now_face) ∧ fX9_flat 700 m_rowsOf m_columnsOf m_shapeRows m_shapeColumns m_row m_column m_below m_face = some (r, q_shapeRows, q_shapeColumns, q_row, q_column, q_below, q_face) ∧ gi_sh v_now_rows v_now_cols p_now_high p_now_wide p_now_rowOf p_now_colOf p_now_below p_now_face v_now_worn v_now_last v_now_bend v_now_tall ∧ gm_sh m_rowsOf m_columnsOf m_isKept m_imageRows m_imageColumns q_shapeRows q_shapeColumns q_row q_column q_below q_face m_worn m_lastBend ∧ rl_ge v_now_rows v_now_cols p_now_high p_now_wide v_now_folds p_now_rowOf p_now_colOf p_now_below p_now_face v_hasImage v_kept_rows v_kept_cols v_kept_high v_kept_wide v_kept_folds v_kept_rowOf v_kept_colOf v_kept_below v_kept_face m_rowsOf m_columnsOf m_folded m_isKept m_imageRows m_imageColumns m_imageFolded q_shapeRows q_shapeColumns q_row q_column q_below q_face := by
  obtain ⟨⟨r8, p_now_high, p_now_wide, p_now_rowOf, p_now_colOf, p_now_below, p_now_face⟩, e8, -⟩ := st8_flat   g8_0
  obtain ⟨⟨r9, q_shapeRows, q_shapeColumns, q_row, q_column, q_below, q_face⟩, e9, -⟩ := st9_flat   g9_0
  have k8 := wp_get (st8_flat g8_0) e8
  have k9 := wp_get (st9_flat g9_0) e9
  obtain ⟨a0, a1, a2, a3, a4, a5, a6, a7, a8, a9, a10, a11, a12, a13, a14, a15, a16, a17⟩ := id g8_0
  obtain ⟨z0, z1, z2, z3, z4, z5, z6, z7, z8, z9, z10, z11, z12, z13⟩ := id g9_0
  have n0 : (0 : Int32).toInt = 0 := by decide
  have n5 : (5 : Int32).toInt = 5 := by decide
  have y0 : (0 : Int32).toInt.toNat = 0 := by decide
  have y5 : (5 : Int32).toInt.toNat = 5 := by decide
  obtain ⟨b1, b2, b3, b4, b5, b6⟩ := hr_0
  subst b1 b2
  have hf := i_fl z0 z1 z2 z3
  obtain ⟨l1, l2, l3⟩ := id b5
  have RR : r9 = r8 ∧ rl_ge m_rowsOf m_columnsOf p_now_high p_now_wide v_now_folds p_now_rowOf p_now_colOf p_now_below p_now_face v_hasImage v_kept_rows v_kept_cols v_kept_high v_kept_wide v_kept_folds v_kept_rowOf v_kept_colOf v_kept_below v_kept_face m_rowsOf m_columnsOf m_folded m_isKept m_imageRows m_imageColumns m_imageFolded q_shapeRows q_shapeColumns q_row q_column q_below q_face := by
    have f8 := e8
    have f9 := e9
    unfold fX8_flat at f8
    unfold fX9_flat at f9
    obtain ⟨u, eu, f8⟩ := mm_bd1s f8
    obtain ⟨w3, w4, w5, w6, w7, w8, el, f8⟩ := mm_bd6s f8
    have f9 := ck_x (ck_x f9)
    rw [nm_eq] at f9
    obtain ⟨x3, x4, x5, x6, x7, x8, er, f9⟩ := mm_bd6s f9
    have hu : v_now_high * v_now_wide = u := sm_i eu
    obtain ⟨c1, c2, c3⟩ := lo_e (m := (m_rowsOf.toInt * m_columnsOf.toInt).toNat) (by omega) (by omega) a0 a1 a2 a3 a8 a9 a10 a11 el
    obtain ⟨d1, d2, -, d4, d5⟩ := li_e (m := (m_rowsOf.toInt * m_columnsOf.toInt).toNat) (by omega) (by omega) z2 z3 (by omega) (by omega) z6 z7 z8 z9 er
    rw [y0, Nat.mul_zero] at d4 d5
    apply mm_sub7 f8
    apply mm_sub7 f9
    rw [c1, c2, d1, d2]
    refine ⟨?_, rfl, rfl, b3, b4, ⟨?_, ?_, fl_x c3 d5⟩, fun hk => ?_⟩
    · rw [← hu, ge_ig, ge_ig, y0, l1, l2]
    · rw [ge_is _ _ _ _ (by omega), y0, if_pos rfl]
    · rw [ge_is _ _ _ _ (by omega), y0, if_pos rfl]
    · obtain ⟨f1, f2, f3, f4⟩ := b6 hk
      subst f1 f2
      have hk2 : ¬ (m_isKept = false) := by rw [b4, hk]; decide
      obtain ⟨u0, u1, u2, u3, -⟩ := z13 hk2
      refine ⟨rfl, rfl, f3, lg_t f4 (i_fl u0 u1 u2 u3).2.2 ?_ ?_ (fun j j0 j1 => d4 j (by omega) (by omega))⟩
      · rw [ge_is _ _ _ _ (by omega), y0, if_neg (by decide)]
      · rw [ge_is _ _ _ _ (by omega), y0, if_neg (by decide)]
  obtain ⟨er, R⟩ := RR
  subst er
  exact ⟨_, _, _, _, _, _, _, _, _, _, _, _, _, e8, e9, k8, k9, R⟩
set_option maxHeartbeats 4000000 in
set_option maxRecDepth 20000 in
theorem rs_image_ge {v_hasImage : Bool} {v_now_rows : Int32} {v_now_cols : Int32} {v_now_high : Int32} {v_now_wide : Int32} {v_now_folds : Int32} {v_now_wrong : Int32} {v_now_more : Int32} {v_now_rowOf : List Int32} {v_now_colOf : List Int32} {v_now_below : List Int32} {v_now_face : List Int32} {v_now_worn : List Int32} {v_now_last : List Int32} {v_kept_rows : Int32} {v_kept_cols : Int32} {v_kept_high : Int32} {v_kept_wide : Int32} {v_kept_folds : Int32} {v_kept_wrong : Int32} {v_kept_more : Int32} {v_kept_rowOf : List Int32} {v_kept_colOf : List Int32} {v_kept_below : List Int32} {v_kept_face : List Int32} {v_kept_worn : List Int32} {v_kept_last : List Int32} {v_now_bend : List Int32} {v_now_tall : List Int32} {v_kept_bend : List Int32} {v_kept_tall : List Int32} {m_rowsOf : Int32} {m_columnsOf : Int32} {m_folded : Int32} {m_wronged : Int32} {m_isKept : Bool} {m_imageRows : Int32} {m_imageColumns : Int32} {m_imageFolded : Int32} {m_imageWronged : Int32} {m_shapeRows : List Int32} {m_shapeColumns : List Int32} {m_row : List Int32} {m_column : List Int32} {m_below : List Int32} {m_face : List Int32} {m_worn : List Int32} {m_lastBend : List Int32} (g8_0 : gi_sh v_now_rows v_now_cols v_now_high v_now_wide v_now_rowOf v_now_colOf v_now_below v_now_face v_now_worn v_now_last v_now_bend v_now_tall) (g8_1 : gi_sh v_kept_rows v_kept_cols v_kept_high v_kept_wide v_kept_rowOf v_kept_colOf v_kept_below v_kept_face v_kept_worn v_kept_last v_kept_bend v_kept_tall) (g9_0 : gm_sh m_rowsOf m_columnsOf m_isKept m_imageRows m_imageColumns m_shapeRows m_shapeColumns m_row m_column m_below m_face m_worn m_lastBend) (hr_0 : rl_ge v_now_rows v_now_cols v_now_high v_now_wide v_now_folds v_now_rowOf v_now_colOf v_now_below v_now_face v_hasImage v_kept_rows v_kept_cols v_kept_high v_kept_wide v_kept_folds v_kept_rowOf v_kept_colOf v_kept_below v_kept_face m_rowsOf m_columnsOf m_folded m_isKept m_imageRows m_imageColumns m_imageFolded m_shapeRows m_shapeColumns m_row m_column m_below m_face) : ∃ (r : Int32) (p_hasImage : Bool) (p_kept_rows : Int32) (p_kept_cols : Int32) (p_kept_high : Int32) (p_kept_wide : Int32) (p_kept_folds : Int32) (p_kept_wrong : Int32) (p_kept_more : Int32) (p_kept_rowOf : List Int32) (p_kept_colOf : List Int32) (p_kept_below : List Int32) (p_kept_face : List Int32) (p_kept_worn : List Int32) (p_kept_last : List Int32) (q_isKept : Bool) (q_imageRows : Int32) (q_imageColumns : Int32) (q_imageFolded : Int32) (q_imageWronged : Int32) (q_shapeRows : List Int32) (q_shapeColumns : List Int32) (q_row : List Int32) (q_column : List Int32) (q_below : List Int32) (q_face : List Int32) (q_worn : List Int32) (q_lastBend : List Int32), fX8_image 700 v_hasImage v_now_rows v_now_cols v_now_high v_now_wide v_now_folds v_now_wrong v_now_more v_now_rowOf v_now_colOf v_now_below v_now_face v_now_worn v_now_last v_kept_rows v_kept_cols v_kept_high v_kept_wide v_kept_folds v_kept_wrong v_kept_more v_kept_rowOf v_kept_colOf v_kept_below v_kept_face v_kept_worn v_kept_last = some (r, p_hasImage, p_kept_rows, p_kept_cols, p_kept_high, p_kept_wide, p_kept_folds, p_kept_wrong, p_kept_more, p_kept_rowOf, p_kept_colOf, p_kept_below, p_kept_face, p_kept_worn, p_kept_last) ∧ fX9_image 700 m_rowsOf m_columnsOf m_folded m_wronged m_isKept m_imageRows m_imageColumns m_imageFolded m_imageWronged m_shapeRows m_shapeColumns m_row m_column m_below m_face m_worn m_lastBend = some (r, q_isKept, q_imageRows, q_imageColumns, q_imageFolded, q_imageWronged, q_shapeRows, q_shapeColumns, q_row, q_column, q_below, q_face, q_worn, q_lastBend) ∧ gi_sh p_kept_rows p_kept_cols p_kept_high p_kept_wide p_kept_rowOf p_kept_colOf p_kept_below p_kept_face p_kept_worn p_kept_last v_kept_bend v_kept_tall ∧ gm_sh m_rowsOf m_columnsOf q_isKept q_imageRows q_imageColumns q_shapeRows q_shapeColumns q_row q_column q_below q_face q_worn q_lastBend ∧ rl_ge v_now_rows v_now_cols v_now_high v_now_wide v_now_folds v_now_rowOf v_now_colOf v_now_below v_now_face p_hasImage p_kept_rows p_kept_cols p_kept_high p_kept_wide p_kept_folds p_kept_rowOf p_kept_colOf p_kept_below p_kept_face m_rowsOf m_columnsOf m_folded q_isKept q_imageRows q_imageColumns q_imageFolded q_shapeRows q_shapeColumns q_row q_column q_below q_face := by
  obtain ⟨⟨r8, p_hasImage, p_kept_rows, p_kept_cols, p_kept_high, p_kept_wide, p_kept_folds, p_kept_wrong, p_kept_more, p_kept_rowOf, p_kept_colOf, p_kept_below, p_kept_face, p_kept_worn, p_kept_last⟩, e8, -⟩ := st8_image  (v_hasImage := v_hasImage) (v_now_folds := v_now_folds) (v_now_wrong := v_now_wrong) (v_now_more := v_now_more) (v_kept_folds := v_kept_folds) (v_kept_wrong := v_kept_wrong) (v_kept_more := v_kept_more) g8_0 g8_1
  obtain ⟨⟨r9, q_isKept, q_imageRows, q_imageColumns, q_imageFolded, q_imageWronged, q_shapeRows, q_shapeColumns, q_row, q_column, q_below, q_face, q_worn, q_lastBend⟩, e9, -⟩ := st9_image  (v_folded := m_folded) (v_wronged := m_wronged) (v_imageFolded := m_imageFolded) (v_imageWronged := m_imageWronged) g9_0
  have k8 := wp_get (st8_image g8_0 g8_1) e8
  have k9 := wp_get (st9_image g9_0) e9
  obtain ⟨a0, a1, a2, a3, a4, a5, a6, a7, a8, a9, a10, a11, a12, a13, a14, a15, a16, a17⟩ := id g8_0
  obtain ⟨c0, c1, c2, c3, c4, c5, c6, c7, c8, c9, c10, c11, c12, c13, c14, c15, c16, c17⟩ := id g8_1
  obtain ⟨z0, z1, z2, z3, z4, z5, z6, z7, z8, z9, z10, z11, z12, z13⟩ := id g9_0
  have n0 : (0 : Int32).toInt = 0 := by decide
  have n5 : (5 : Int32).toInt = 5 := by decide
  have y0 : (0 : Int32).toInt.toNat = 0 := by decide
  have y5 : (5 : Int32).toInt.toNat = 5 := by decide
  obtain ⟨b1, b2, b3, b4, b5, b6⟩ := hr_0
  subst b1 b2
  have hf := i_fl z0 z1 z2 z3
  obtain ⟨l1, l2, l3⟩ := id b5
  have RR : r9 = r8 ∧ rl_ge m_rowsOf m_columnsOf v_now_high v_now_wide v_now_folds v_now_rowOf v_now_colOf v_now_below v_now_face p_hasImage p_kept_rows p_kept_cols p_kept_high p_kept_wide p_kept_folds p_kept_rowOf p_kept_colOf p_kept_below p_kept_face m_rowsOf m_columnsOf m_folded q_isKept q_imageRows q_imageColumns q_imageFolded q_shapeRows q_shapeColumns q_row q_column q_below q_face := by
    have f8 := e8
    have f9 := e9
    unfold fX8_image at f8
    unfold fX9_image at f9
    rw [cp_e c8 c9 c10 c11 c12 c13 a8 a9 a10 a11 a12 a13] at f8
    obtain ⟨x1, x2, x3, x4, x5, x6, x7, x8, er, f9⟩ := mm_bd8s f9
    obtain ⟨⟨d1, d2⟩, d3, -, d5, -⟩ := co_e (by omega) (by omega) (by omega) (by omega) (by omega) z6 z7 z8 z9 z10 z11 er
    rw [y0, y5] at d5
    rw [y5] at d3
    have f8' : some (v_now_folds, true, m_rowsOf, m_columnsOf, v_now_high, v_now_wide, v_now_folds, v_now_wrong, v_now_more, v_now_rowOf, v_now_colOf, v_now_below, v_now_face, v_now_worn, v_now_last) = some (r8, p_hasImage, p_kept_rows, p_kept_cols, p_kept_high, p_kept_wide, p_kept_folds, p_kept_wrong, p_kept_more, p_kept_rowOf, p_kept_colOf, p_kept_below, p_kept_face, p_kept_worn, p_kept_last) := f8
    apply mm_sub15 f8'
    apply mm_sub14 f9
    rw [d1, d2]
    refine ⟨b3, rfl, rfl, b3, rfl, lg_t b5 hf.2.2 ?_ ?_ (fun j j0 j1 => d3 j (by omega) (by omega)), fun _ => ⟨rfl, rfl, b3, ?_, ?_, fun k hk => ?_⟩⟩
    · rw [ge_is _ _ _ _ (by omega), y5, if_neg (by decide)]
    · rw [ge_is _ _ _ _ (by omega), y5, if_neg (by decide)]
    · rw [ge_is _ _ _ _ (by omega), y5, if_pos rfl, ge_ig, y0]
      exact l1
    · rw [ge_is _ _ _ _ (by omega), y5, if_pos rfl, ge_ig, y0]
      exact l2
    · obtain ⟨u1, u2, u3, u4⟩ := d5 k (by omega)
      obtain ⟨v1, v2, v3, v4⟩ := l3 k hk
      exact ⟨by rw [u1]; exact v1, by rw [u2]; exact v2, by rw [u3]; exact v3, by rw [u4]; exact v4⟩
  obtain ⟨er, R⟩ := RR
  subst er
  exact ⟨_, _, _, _, _, _, _, _, _, _, _, _, _, _, _, _, _, _, _, _, _, _, _, _, _, _, _, _, e8, e9, k8, k9, R⟩
set_option maxHeartbeats 4000000 in
set_option maxRecDepth 20000 in
theorem rs_back_ge {v_hasImage : Bool} {v_now_rows : Int32} {v_now_cols : Int32} {v_now_high : Int32} {v_now_wide : Int32} {v_now_folds : Int32} {v_now_wrong : Int32} {v_now_more : Int32} {v_now_rowOf : List Int32} {v_now_colOf : List Int32} {v_now_below : List Int32} {v_now_face : List Int32} {v_now_worn : List Int32} {v_now_last : List Int32} {v_kept_rows : Int32} {v_kept_cols : Int32} {v_kept_high : Int32} {v_kept_wide : Int32} {v_kept_folds : Int32} {v_kept_wrong : Int32} {v_kept_more : Int32} {v_kept_rowOf : List Int32} {v_kept_colOf : List Int32} {v_kept_below : List Int32} {v_kept_face : List Int32} {v_kept_worn : List Int32} {v_kept_last : List Int32} {v_now_bend : List Int32} {v_now_tall : List Int32} {v_kept_bend : List Int32} {v_kept_tall : List Int32} {m_rowsOf : Int32} {m_columnsOf : Int32} {m_folded : Int32} {m_wronged : Int32} {m_isKept : Bool} {m_imageRows : Int32} {m_imageColumns : Int32} {m_imageFolded : Int32} {m_imageWronged : Int32} {m_shapeRows : List Int32} {m_shapeColumns : List Int32} {m_row : List Int32} {m_column : List Int32} {m_below : List Int32} {m_face : List Int32} {m_worn : List Int32} {m_lastBend : List Int32} (g8_0 : gi_sh v_now_rows v_now_cols v_now_high v_now_wide v_now_rowOf v_now_colOf v_now_below v_now_face v_now_worn v_now_last v_now_bend v_now_tall) (g8_1 : gi_sh v_kept_rows v_kept_cols v_kept_high v_kept_wide v_kept_rowOf v_kept_colOf v_kept_below v_kept_face v_kept_worn v_kept_last v_kept_bend v_kept_tall) (g9_0 : gm_sh m_rowsOf m_columnsOf m_isKept m_imageRows m_imageColumns m_shapeRows m_shapeColumns m_row m_column m_below m_face m_worn m_lastBend) (hr_0 : rl_ge v_now_rows v_now_cols v_now_high v_now_wide v_now_folds v_now_rowOf v_now_colOf v_now_below v_now_face v_hasImage v_kept_rows v_kept_cols v_kept_high v_kept_wide v_kept_folds v_kept_rowOf v_kept_colOf v_kept_below v_kept_face m_rowsOf m_columnsOf m_folded m_isKept m_imageRows m_imageColumns m_imageFolded m_shapeRows m_shapeColumns m_row m_column m_below m_face) : ∃ (r : Int32) (p_now_rows : Int32) (p_now_cols : Int32) (p_now_high : Int32) (p_now_wide : Int32) (p_now_folds : Int32) (p_now_wrong : Int32) (p_now_more : Int32) (p_now_rowOf : List Int32) (p_now_colOf : List Int32) (p_now_below : List Int32) (p_now_face : List Int32) (p_now_worn : List Int32) (p_now_last : List Int32) (q_rowsOf : Int32) (q_columnsOf : Int32) (q_folded : Int32) (q_wronged : Int32) (q_shapeRows : List Int32) (q_shapeColumns : List Int32) (q_row : List Int32) (q_column : List Int32) (q_below : List Int32) (q_face : List Int32) (q_worn : List Int32) (q_lastBend : List Int32), fX8_back 700 v_hasImage v_now_rows v_now_cols v_now_high v_now_wide v_now_folds v_now_wrong v_now_more v_now_rowOf v_now_colOf v_now_below v_now_face v_now_worn v_now_last v_kept_rows v_kept_cols v_kept_high v_kept_wide v_kept_folds v_kept_wrong v_kept_more v_kept_rowOf v_kept_colOf v_kept_below v_kept_face v_kept_worn v_kept_last = some (r, p_now_rows, p_now_cols, p_now_high, p_now_wide, p_now_folds, p_now_wrong, p_now_more, p_now_rowOf, p_now_colOf, p_now_below, p_now_face, p_now_worn, p_now_last) ∧ fX9_back 700 m_rowsOf m_columnsOf m_folded m_wronged m_isKept m_imageRows m_imageColumns m_imageFolded m_imageWronged m_shapeRows m_shapeColumns m_row m_column m_below m_face m_worn m_lastBend = some (r, q_rowsOf, q_columnsOf, q_folded, q_wronged, q_shapeRows, q_shapeColumns, q_row, q_column, q_below, q_face, q_worn, q_lastBend) ∧ gi_sh p_now_rows p_now_cols p_now_high p_now_wide p_now_rowOf p_now_colOf p_now_below p_now_face p_now_worn p_now_last v_now_bend v_now_tall ∧ gm_sh q_rowsOf q_columnsOf m_isKept m_imageRows m_imageColumns q_shapeRows q_shapeColumns q_row q_column q_below q_face q_worn q_lastBend ∧ rl_ge p_now_rows p_now_cols p_now_high p_now_wide p_now_folds p_now_rowOf p_now_colOf p_now_below p_now_face v_hasImage v_kept_rows v_kept_cols v_kept_high v_kept_wide v_kept_folds v_kept_rowOf v_kept_colOf v_kept_below v_kept_face q_rowsOf q_columnsOf q_folded m_isKept m_imageRows m_imageColumns m_imageFolded q_shapeRows q_shapeColumns q_row q_column q_below q_face := by
  obtain ⟨⟨r8, p_now_rows, p_now_cols, p_now_high, p_now_wide, p_now_folds, p_now_wrong, p_now_more, p_now_rowOf, p_now_colOf, p_now_below, p_now_face, p_now_worn, p_now_last⟩, e8, -⟩ := st8_back  (v_hasImage := v_hasImage) (v_now_folds := v_now_folds) (v_now_wrong := v_now_wrong) (v_now_more := v_now_more) (v_kept_folds := v_kept_folds) (v_kept_wrong := v_kept_wrong) (v_kept_more := v_kept_more) g8_0 g8_1
  obtain ⟨⟨r9, q_rowsOf, q_columnsOf, q_folded, q_wronged, q_shapeRows, q_shapeColumns, q_row, q_column, q_below, q_face, q_worn, q_lastBend⟩, e9, -⟩ := st9_back  (v_folded := m_folded) (v_wronged := m_wronged) (v_imageFolded := m_imageFolded) (v_imageWronged := m_imageWronged) g9_0
  have k8 := wp_get (st8_back g8_0 g8_1) e8
  have k9 := wp_get (st9_back g9_0) e9
  obtain ⟨a0, a1, a2, a3, a4, a5, a6, a7, a8, a9, a10, a11, a12, a13, a14, a15, a16, a17⟩ := id g8_0
  obtain ⟨c0, c1, c2, c3, c4, c5, c6, c7, c8, c9, c10, c11, c12, c13, c14, c15, c16, c17⟩ := id g8_1
  obtain ⟨z0, z1, z2, z3, z4, z5, z6, z7, z8, z9, z10, z11, z12, z13⟩ := id g9_0
  have n0 : (0 : Int32).toInt = 0 := by decide
  have n5 : (5 : Int32).toInt = 5 := by decide
  have y0 : (0 : Int32).toInt.toNat = 0 := by decide
  have y5 : (5 : Int32).toInt.toNat = 5 := by decide
  obtain ⟨b1, b2, b3, b4, b5, b6⟩ := hr_0
  have RR : r9 = r8 ∧ rl_ge p_now_rows p_now_cols p_now_high p_now_wide p_now_folds p_now_rowOf p_now_colOf p_now_below p_now_face v_hasImage v_kept_rows v_kept_cols v_kept_high v_kept_wide v_kept_folds v_kept_rowOf v_kept_colOf v_kept_below v_kept_face q_rowsOf q_columnsOf q_folded m_isKept m_imageRows m_imageColumns m_imageFolded q_shapeRows q_shapeColumns q_row q_column q_below q_face := by
    have f8 := e8
    have f9 := e9
    unfold fX8_back at f8
    unfold fX9_back at f9
    by_cases h : v_hasImage = false
    · rw [if_pos h] at f8
      rw [if_pos (by rw [b4]; exact h)] at f9
      apply mm_sub14 f8
      apply mm_sub13 f9
      exact ⟨rfl, b1, b2, b3, b4, b5, b6⟩
    · have hk : v_hasImage = true := by
        cases hv : v_hasImage
        · exact absurd hv h
        · rfl
      have hk2 : ¬ (m_isKept = false) := by rw [b4, hk]; decide
      obtain ⟨j1, j2, j3, j4⟩ := b6 hk
      obtain ⟨u0, u1, u2, u3, -⟩ := z13 hk2
      have m32 := (i_fl u0 u1 u2 u3).2.2
      obtain ⟨l1, l2, l3⟩ := id j4
      rw [if_neg h, cp_e a8 a9 a10 a11 a12 a13 c8 c9 c10 c11 c12 c13] at f8
      rw [if_neg hk2] at f9
      obtain ⟨x1, x2, x3, x4, x5, x6, x7, x8, er, f9⟩ := mm_bd8s f9
      obtain ⟨⟨d1, d2⟩, d3, -, d5, -⟩ := co_e (by omega) (by omega) (by omega) (by omega) (by omega) z6 z7 z8 z9 z10 z11 er
      rw [y0, y5] at d5
      rw [y0] at d3
      have f8' : some (v_kept_folds, v_kept_rows, v_kept_cols, v_kept_high, v_kept_wide, v_kept_folds, v_kept_wrong, v_kept_more, v_kept_rowOf, v_kept_colOf, v_kept_below, v_kept_face, v_kept_worn, v_kept_last) = some (r8, p_now_rows, p_now_cols, p_now_high, p_now_wide, p_now_folds, p_now_wrong, p_now_more, p_now_rowOf, p_now_colOf, p_now_below, p_now_face, p_now_worn, p_now_last) := f8
      apply mm_sub14 f8'
      apply mm_sub13 f9
      rw [d1, d2]
      refine ⟨j3, j1, j2, j3, b4, ⟨?_, ?_, fun k hk3 => ?_⟩, fun _ => ⟨j1, j2, j3, lg_t j4 (by rw [← j1, ← j2]; exact m32) ?_ ?_ (fun j j0 j1 => d3 j (by omega) (by omega))⟩⟩
      · rw [ge_is _ _ _ _ (by omega), y0, if_pos rfl, ge_ig, y5]
        exact l1
      · rw [ge_is _ _ _ _ (by omega), y0, if_pos rfl, ge_ig, y5]
        exact l2
      · rw [← j1, ← j2] at hk3
        obtain ⟨u1, u2, u3, u4⟩ := d5 k (by omega)
        rw [j1, j2] at hk3
        obtain ⟨v1, v2, v3, v4⟩ := l3 k hk3
        exact ⟨by rw [u1]; exact v1, by rw [u2]; exact v2, by rw [u3]; exact v3, by rw [u4]; exact v4⟩
      · rw [ge_is _ _ _ _ (by omega), y0, if_neg (by decide)]
      · rw [ge_is _ _ _ _ (by omega), y0, if_neg (by decide)]
  obtain ⟨er, R⟩ := RR
  subst er
  exact ⟨_, _, _, _, _, _, _, _, _, _, _, _, _, _, _, _, _, _, _, _, _, _, _, _, _, _, e8, e9, k8, k9, R⟩
end
section
/-! Geometry: where, shape -/
theorem hf_e (x1 rows cols : Int32) : fX5_hasField 700 x1 rows cols = some (decide (0 ≤ x1.toInt ∧ x1.toInt < (rows * cols).toInt)) := by
  have n0 : (0 : Int32).toInt = 0 := by decide
  unfold fX5_hasField fX5_fields
  by_cases c : x1 < 0
  · have d := i_lt c
    rw [if_pos c, decide_eq_false (by omega)]
  · have d := i_nlt c
    rw [if_neg c, bs_1]
    by_cases c2 : rows * cols ≤ x1
    · have d2 := i_le c2
      rw [if_pos c2, decide_eq_false (by omega)]
    · have d2 := i_nle c2
      rw [if_neg c2, decide_eq_true (by omega)]
theorem ff_e {x1 ro co : Int32} (h : 1 ≤ (ro * co).toInt) : fX9_isField 700 x1 ro co = some (decide (0 ≤ x1.toInt ∧ x1.toInt < (ro * co).toInt)) := by
  have m0 : (0 : Int64).toInt = 0 := by decide
  have n1 : (1 : Int32).toInt = 1 := by decide
  have hb : (ro * co).toInt < 2147483648 := Int32.toInt_lt _
  unfold fX9_isField fX9_fields
  rw [bs_1]
  generalize hz : (ro * co) - (1 : Int32) = z
  have ez := i_subE hz (by omega) (by omega)
  rw [wn_x, bs_1, i_64, i_64, m0]
  exact congrArg some (decide_eq_decide.mpr (by omega))
/-- what where answers of a field -/
def wv_w (x2 r c b f : Int32) : Int32 := if x2 = 0 then r else if x2 = 1 then c else if x2 = 2 then b else if x2 = 3 then f else -1
theorem pw_e {x1 x2 rows cols r : Int32} {R C B F : List Int32} (e : fX5_placeOf 700 x1 x2 rows cols R C B F = some r) : r = if 0 ≤ x1.toInt ∧ x1.toInt < (rows * cols).toInt then wv_w x2 (R.getD x1.toInt.toNat 0) (C.getD x1.toInt.toNat 0) (B.getD x1.toInt.toNat 0) (F.getD x1.toInt.toNat 0) else -1 := by
  unfold fX5_placeOf at e
  rw [hf_e, bs_1] at e
  by_cases c : 0 ≤ x1.toInt ∧ x1.toInt < (rows * cols).toInt
  · rw [decide_eq_true c, if_neg (by decide)] at e
    rw [if_pos c]
    unfold wv_w
    by_cases c0 : x2 = 0
    · rw [if_pos c0] at e ⊢
      exact (sm_i (ck_x e)).symm
    · rw [if_neg c0] at e ⊢
      by_cases c1 : x2 = 1
      · rw [if_pos c1] at e ⊢
        exact (sm_i (ck_x e)).symm
      · rw [if_neg c1] at e ⊢
        by_cases c2 : x2 = 2
        · rw [if_pos c2] at e ⊢
          exact (sm_i (ck_x e)).symm
        · rw [if_neg c2] at e ⊢
          by_cases c3 : x2 = 3
          · rw [if_pos c3] at e ⊢
            exact (sm_i (ck_x e)).symm
          · rw [if_neg c3] at e ⊢
            exact (sm_i e).symm
  · rw [decide_eq_false c, if_pos rfl] at e
    rw [if_neg c]
    exact (sm_i e).symm
theorem wo_e {lv x1 x2 r : Int32} {row col bel fac : List Int32} (h : 0 ≤ x2.toInt ∧ x2.toInt ≤ 3) (e : fX9_whereOf 700 lv x1 x2 row col bel fac = some r) : r = wv_w x2 (row.getD (((32 : Int32) * lv) + x1).toInt.toNat 0) (col.getD (((32 : Int32) * lv) + x1).toInt.toNat 0) (bel.getD (((32 : Int32) * lv) + x1).toInt.toNat 0) (fac.getD (((32 : Int32) * lv) + x1).toInt.toNat 0) := by
  have n0 : (0 : Int32).toInt = 0 := by decide
  have n1 : (1 : Int32).toInt = 1 := by decide
  have n2 : (2 : Int32).toInt = 2 := by decide
  have n3 : (3 : Int32).toInt = 3 := by decide
  unfold fX9_whereOf at e
  rw [nm_eq] at e
  unfold wv_w
  by_cases c0 : x2 = 0
  · rw [if_pos c0] at e ⊢
    exact (sm_i (ck_x e)).symm
  · rw [if_neg c0] at e ⊢
    have d0 := i_ne c0
    by_cases c1 : x2 = 1
    · rw [if_pos c1] at e ⊢
      exact (sm_i (ck_x e)).symm
    · rw [if_neg c1] at e ⊢
      have d1 := i_ne c1
      by_cases c2 : x2 = 2
      · rw [if_pos c2] at e ⊢
        exact (sm_i (ck_x e)).symm
      · rw [if_neg c2] at e ⊢
        have d2 := i_ne c2
        have c3 : x2 = 3 := Int32.toInt_inj.mp (by omega)
        rw [if_pos c3]
        exact (sm_i (ck_x e)).symm
theorem wv_o {x2 r c b f : Int32} (h : ¬ (0 ≤ x2.toInt ∧ x2.toInt ≤ 3)) : wv_w x2 r c b f = -1 := by
  unfold wv_w
  rw [if_neg (fun k => h (by rw [k]; decide)), if_neg (fun k => h (by rw [k]; decide)), if_neg (fun k => h (by rw [k]; decide)), if_neg (fun k => h (by rw [k]; decide))]
theorem hp_4 {rows cols ro co x : Int32} {sR sC B bel : List Int32} {m : Nat} (hm : (rows * cols).toInt = m) (hm9 : (ro * co).toInt = m) (m32 : m ≤ 32) (H : ∀ k : Nat, k < m → bel.getD k 0 = B.getD k 0) : ∀ (n n' : Nat) (x1 x2 r8 : Int32) (r9 : Int32), fX5_highestPile_4 700 n x1 x2 rows cols B = some r8 → fX9_shape_4 700 n' x x1 x2 ro co sR sC bel = some r9 → 0 ≤ x2.toInt → r9 = if x = 0 then mm_ig sR (0 : Int32) else if x = 1 then mm_ig sC (0 : Int32) else if x = 2 then r8 else -1 := by
  have n1 : (1 : Int32).toInt = 1 := by decide
  intro n
  induction n with
  | zero =>
    intro n' x1 x2 r8 r9 e
    exact absurd e (by intro h; cases h)
  | succ n ih =>
    intro n' x1 x2 r8 r9 e8 e9 p0
    cases n' with
    | zero => exact absurd e9 (by intro h; cases h)
    | succ n' =>
      rw [uf_X5_highestPile_4] at e8
      rw [uf_X9_shape_4] at e9
      obtain ⟨f8, ef8, e8⟩ := mm_bd1s e8
      obtain ⟨f9, ef9, e9⟩ := mm_bd1s e9
      have h8 : rows * cols = f8 := sm_i ef8
      have h9 : ro * co = f9 := sm_i ef9
      subst h8
      subst h9
      by_cases c : rows * cols ≤ x2
      · have d := i_le c
        have c9 : ro * co ≤ x2 := Int32.le_iff_toInt_le.mpr (by omega)
        rw [if_pos c] at e8
        rw [if_pos c9] at e9
        have e8 := sm_i e8
        subst e8
        by_cases c0 : x = 0
        · rw [if_pos c0] at e9 ⊢
          exact (sm_i (ck_x e9)).symm
        · rw [if_neg c0] at e9 ⊢
          by_cases c1 : x = 1
          · rw [if_pos c1] at e9 ⊢
            exact (sm_i (ck_x e9)).symm
          · rw [if_neg c1] at e9 ⊢
            by_cases c2 : x = 2
            · rw [if_pos c2] at e9 ⊢
              exact (sm_i e9).symm
            · rw [if_neg c2] at e9 ⊢
              exact (sm_i e9).symm
      · have d := i_nle c
        have c9 : ¬ ro * co ≤ x2 := fun k => absurd (i_le k) (by omega)
        rw [if_neg c] at e8
        rw [if_neg c9] at e9
        have e8 := ck_x e8
        rw [nm_eq, nm_eq] at e8
        have e9 := ck_x e9
        have hb : mm_ig bel x2 = mm_ig B x2 := H x2.toInt.toNat (by omega)
        rw [hb] at e9
        have e9' : fX9_shape_36 700 (fX9_shape_4 700 n') x x2 (mm_max x1 (mm_ig B x2 + (1 : Int32))) ro co sR sC bel = some r9 := by
          unfold mm_max
          by_cases g : (mm_ig B x2 + (1 : Int32)) ≤ x1
          · rw [if_pos g] at e9
            rw [if_neg (Int32.not_lt.mpr g)]
            exact e9
          · rw [if_neg g] at e9
            rw [if_pos (Int32.not_le.mp g)]
            exact ck_x e9
        rw [uf_X9_shape_36, nm_eq] at e9'
        generalize hy : x2 + (1 : Int32) = y at e8 e9'
        have ey := i_addE hy (by omega) (by omega)
        exact ih n' _ y r8 r9 e8 e9' (by omega)
theorem rs_where_ge {x1 : Int32} {x2 : Int32} {v_now_rows : Int32} {v_now_cols : Int32} {v_now_rowOf : List Int32} {v_now_colOf : List Int32} {v_now_below : List Int32} {v_now_face : List Int32} {v_now_high : Int32} {v_now_wide : Int32} {v_now_worn : List Int32} {v_now_last : List Int32} {v_now_bend : List Int32} {v_now_tall : List Int32} {v_now_folds : Int32} {v_hasImage : Bool} {v_kept_rows : Int32} {v_kept_cols : Int32} {v_kept_high : Int32} {v_kept_wide : Int32} {v_kept_folds : Int32} {v_kept_rowOf : List Int32} {v_kept_colOf : List Int32} {v_kept_below : List Int32} {v_kept_face : List Int32} {m_rowsOf : Int32} {m_columnsOf : Int32} {m_row : List Int32} {m_column : List Int32} {m_below : List Int32} {m_face : List Int32} {m_isKept : Bool} {m_imageRows : Int32} {m_imageColumns : Int32} {m_shapeRows : List Int32} {m_shapeColumns : List Int32} {m_worn : List Int32} {m_lastBend : List Int32} {m_folded : Int32} {m_imageFolded : Int32} (g8_0 : gi_sh v_now_rows v_now_cols v_now_high v_now_wide v_now_rowOf v_now_colOf v_now_below v_now_face v_now_worn v_now_last v_now_bend v_now_tall) (g9_0 : gm_sh m_rowsOf m_columnsOf m_isKept m_imageRows m_imageColumns m_shapeRows m_shapeColumns m_row m_column m_below m_face m_worn m_lastBend) (hr_0 : rl_ge v_now_rows v_now_cols v_now_high v_now_wide v_now_folds v_now_rowOf v_now_colOf v_now_below v_now_face v_hasImage v_kept_rows v_kept_cols v_kept_high v_kept_wide v_kept_folds v_kept_rowOf v_kept_colOf v_kept_below v_kept_face m_rowsOf m_columnsOf m_folded m_isKept m_imageRows m_imageColumns m_imageFolded m_shapeRows m_shapeColumns m_row m_column m_below m_face) : ∃ (r : Int32), fX8_where 700 x1 x2 v_now_rows v_now_cols v_now_rowOf v_now_colOf v_now_below v_now_face = some r ∧ fX9_where 700 x1 x2 m_rowsOf m_columnsOf m_row m_column m_below m_face = some r ∧ rl_ge v_now_rows v_now_cols v_now_high v_now_wide v_now_folds v_now_rowOf v_now_colOf v_now_below v_now_face v_hasImage v_kept_rows v_kept_cols v_kept_high v_kept_wide v_kept_folds v_kept_rowOf v_kept_colOf v_kept_below v_kept_face m_rowsOf m_columnsOf m_folded m_isKept m_imageRows m_imageColumns m_imageFolded m_shapeRows m_shapeColumns m_row m_column m_below m_face := by
  obtain ⟨r8, e8, -⟩ := st8_where (x1 := x1) (x2 := x2)  g8_0
  obtain ⟨r9, e9, -⟩ := st9_where (x1 := x1) (x2 := x2)  g9_0
  obtain ⟨a0, a1, a2, a3, a4, a5, a6, a7, a8, a9, a10, a11, a12, a13, a14, a15, a16, a17⟩ := id g8_0
  obtain ⟨z0, z1, z2, z3, z4, z5, z6, z7, z8, z9, z10, z11, z12, z13⟩ := id g9_0
  have n0 : (0 : Int32).toInt = 0 := by decide
  have n5 : (5 : Int32).toInt = 5 := by decide
  have y0 : (0 : Int32).toInt.toNat = 0 := by decide
  have y5 : (5 : Int32).toInt.toNat = 5 := by decide
  obtain ⟨b1, b2, b3, b4, b5, b6⟩ := id hr_0
  have hf := i_fl z0 z1 z2 z3
  obtain ⟨l1, l2, l3⟩ := id b5
  have m0 : (0 : Int64).toInt = 0 := by decide
  have m3 : (3 : Int64).toInt = 3 := by decide
  have er : r9 = r8 := by
    have f8 := e8
    have f9 := e9
    unfold fX8_where at f8
    obtain ⟨u, eu, f8⟩ := mm_bd1s f8
    have hu := sm_i f8
    subst hu
    have q8 := pw_e eu
    unfold fX9_where at f9
    rw [ff_e (by omega), bs_1, b1, b2] at f9
    rw [q8]
    by_cases c : 0 ≤ x1.toInt ∧ x1.toInt < (v_now_rows * v_now_cols).toInt
    · rw [decide_eq_true c, if_neg (by decide), wn_x, bs_1, i_64, m0, m3] at f9
      rw [if_pos c]
      by_cases d : 0 ≤ x2.toInt ∧ x2.toInt ≤ 3
      · rw [decide_eq_true d, if_neg (by decide)] at f9
        obtain ⟨v, ev, f9⟩ := mm_bd1s f9
        have hv := sm_i f9
        subst hv
        have q9 := wo_e d ev
        rw [b1, b2] at hf
        rw [ix_e (by omega) (by omega) c.1 (by omega), y0] at q9
        obtain ⟨v1, v2, v3, v4⟩ := l3 x1.toInt.toNat (by omega)
        rw [v1, v2, v3, v4] at q9
        exact q9
      · rw [decide_eq_false d, if_pos rfl] at f9
        rw [wv_o d]
        exact (sm_i f9).symm
    · rw [decide_eq_false c, if_pos rfl] at f9
      rw [if_neg c]
      exact (sm_i f9).symm
  subst er
  exact ⟨_, e8, e9, hr_0⟩
theorem rs_shape_ge {x1 : Int32} {v_now_rows : Int32} {v_now_cols : Int32} {v_now_high : Int32} {v_now_wide : Int32} {v_now_below : List Int32} {v_now_rowOf : List Int32} {v_now_colOf : List Int32} {v_now_face : List Int32} {v_now_worn : List Int32} {v_now_last : List Int32} {v_now_bend : List Int32} {v_now_tall : List Int32} {v_now_folds : Int32} {v_hasImage : Bool} {v_kept_rows : Int32} {v_kept_cols : Int32} {v_kept_high : Int32} {v_kept_wide : Int32} {v_kept_folds : Int32} {v_kept_rowOf : List Int32} {v_kept_colOf : List Int32} {v_kept_below : List Int32} {v_kept_face : List Int32} {m_rowsOf : Int32} {m_columnsOf : Int32} {m_shapeRows : List Int32} {m_shapeColumns : List Int32} {m_below : List Int32} {m_isKept : Bool} {m_imageRows : Int32} {m_imageColumns : Int32} {m_row : List Int32} {m_column : List Int32} {m_face : List Int32} {m_worn : List Int32} {m_lastBend : List Int32} {m_folded : Int32} {m_imageFolded : Int32} (g8_0 : gi_sh v_now_rows v_now_cols v_now_high v_now_wide v_now_rowOf v_now_colOf v_now_below v_now_face v_now_worn v_now_last v_now_bend v_now_tall) (g9_0 : gm_sh m_rowsOf m_columnsOf m_isKept m_imageRows m_imageColumns m_shapeRows m_shapeColumns m_row m_column m_below m_face m_worn m_lastBend) (hr_0 : rl_ge v_now_rows v_now_cols v_now_high v_now_wide v_now_folds v_now_rowOf v_now_colOf v_now_below v_now_face v_hasImage v_kept_rows v_kept_cols v_kept_high v_kept_wide v_kept_folds v_kept_rowOf v_kept_colOf v_kept_below v_kept_face m_rowsOf m_columnsOf m_folded m_isKept m_imageRows m_imageColumns m_imageFolded m_shapeRows m_shapeColumns m_row m_column m_below m_face) : ∃ (r : Int32), fX8_shape 700 x1 v_now_rows v_now_cols v_now_high v_now_wide v_now_below = some r ∧ fX9_shape 700 x1 m_rowsOf m_columnsOf m_shapeRows m_shapeColumns m_below = some r ∧ rl_ge v_now_rows v_now_cols v_now_high v_now_wide v_now_folds v_now_rowOf v_now_colOf v_now_below v_now_face v_hasImage v_kept_rows v_kept_cols v_kept_high v_kept_wide v_kept_folds v_kept_rowOf v_kept_colOf v_kept_below v_kept_face m_rowsOf m_columnsOf m_folded m_isKept m_imageRows m_imageColumns m_imageFolded m_shapeRows m_shapeColumns m_row m_column m_below m_face := by
  obtain ⟨r8, e8, -⟩ := st8_shape (x1 := x1)  g8_0
  obtain ⟨r9, e9, -⟩ := st9_shape (x1 := x1)  g9_0
  obtain ⟨a0, a1, a2, a3, a4, a5, a6, a7, a8, a9, a10, a11, a12, a13, a14, a15, a16, a17⟩ := id g8_0
  obtain ⟨z0, z1, z2, z3, z4, z5, z6, z7, z8, z9, z10, z11, z12, z13⟩ := id g9_0
  have n0 : (0 : Int32).toInt = 0 := by decide
  have n5 : (5 : Int32).toInt = 5 := by decide
  have y0 : (0 : Int32).toInt.toNat = 0 := by decide
  have y5 : (5 : Int32).toInt.toNat = 5 := by decide
  obtain ⟨b1, b2, b3, b4, b5, b6⟩ := id hr_0
  have hf := i_fl z0 z1 z2 z3
  have hf8 := i_fl a0 a1 a2 a3
  obtain ⟨l1, l2, l3⟩ := id b5
  have er : r9 = r8 := by
    have f8 := e8
    have f9 := e9
    rw [b1, b2] at hf
    obtain ⟨h, eh⟩ : ∃ h : Int32, fX5_highestPile 700 v_now_rows v_now_cols v_now_below = some h := by
      obtain ⟨q, eq, -⟩ := st8_shape (x1 := (2 : Int32)) g8_0
      unfold fX8_shape at eq
      rw [if_neg (by decide), if_neg (by decide), if_pos rfl] at eq
      obtain ⟨v, ev, -⟩ := mm_bd1s eq
      exact ⟨v, ev⟩
    unfold fX5_highestPile at eh
    unfold fX9_shape at f9
    have q := hp_4 (m := (v_now_rows.toInt * v_now_cols.toInt).toNat) (by omega) (by rw [b1, b2]; omega) (by omega) (fun k hk => (by have v := (l3 k hk).2.2.1; rw [Nat.mul_zero, Nat.zero_add] at v; exact v)) 700 700 (0 : Int32) (0 : Int32) h r9 eh f9 (by omega)
    unfold fX8_shape at f8
    rw [ge_ig, ge_ig, y0, l1, l2] at q
    rw [q]
    by_cases c0 : x1 = 0
    · rw [if_pos c0] at f8 ⊢
      exact sm_i f8
    · rw [if_neg c0] at f8 ⊢
      by_cases c1 : x1 = 1
      · rw [if_pos c1] at f8 ⊢
        exact sm_i f8
      · rw [if_neg c1] at f8 ⊢
        by_cases c2 : x1 = 2
        · rw [if_pos c2] at f8 ⊢
          unfold fX5_highestPile at f8
          rw [eh, bs_1] at f8
          exact sm_i f8
        · rw [if_neg c2] at f8 ⊢
          exact sm_i f8
  subst er
  exact ⟨_, e8, e9, hr_0⟩
end
section
/-! Geometry: a plan tried -/
def ln_w (sR sC row col bel fac hi to PS : List Int32) : Prop := sR.length = 6 ∧ sC.length = 6 ∧ row.length = 192 ∧ col.length = 192 ∧ bel.length = 192 ∧ fac.length = 192 ∧ hi.length = 32 ∧ to.length = 32 ∧ PS.length = 64
/-- a fold on a sheet and on a level: the geometry behind it -/
theorem bt_e {lv x1 x2 x3 rows cols hg wd fo wr mo : Int32} {R C B F W A be T : List Int32} {sc sk : Int32} {stp st : List Int32} {r h' w' fo' wr' mo' : Int32} {R' C' B' F' W' A' be' T' : List Int32} {sk' : Int32} {st' : List Int32} {tm ba at_ en fa op bm bw mw : Int32} {lim sR sC row col bel fac wo la tape text nam ben hi to PS : List Int32} {ba' at' en' fa' op' bm' bw' mw' : Int32} {sR' sC' row' col' bel' fac' wo' la' nam' ben' hi' to' PS' : List Int32} (L0 : 0 ≤ lv.toInt) (L5 : lv.toInt ≤ 5) (g : gi_sh rows cols hg wd R C B F W A be T) (s0 : 0 ≤ sc.toInt) (s1 : sc.toInt ≤ 121) (s2 : stp.length = 121) (s3 : st.length = 121) (o : ok_w x1 x2 hg wd) (ln : ln_w sR sC row col bel fac hi to PS) (rl : lg_w lv.toInt.toNat rows cols hg wd R C B F sR sC row col bel fac) (e8 : fX5_bendAndTurn 700 x1 x2 x3 rows cols hg wd fo wr mo R C B F W A be T sc sk stp st = some (r, h', w', fo', wr', mo', R', C', B', F', W', A', be', T', sk', st')) (e9 : fX9_foldsOn 700 lv x1 x2 rows cols tm ba at_ en fa op bm bw mw lim sR sC row col bel fac wo la tape text nam ben hi to PS = some (ba', at', en', fa', op', bm', bw', mw', sR', sC', row', col', bel', fac', wo', la', nam', ben', hi', to', PS')) : gi_sh rows cols h' w' R' C' B' F' W' A' be' T' ∧ st'.length = 121 ∧ ln_w sR' sC' row' col' bel' fac' hi' to' PS' ∧ lg_w lv.toInt.toNat rows cols h' w' R' C' B' F' sR' sC' row' col' bel' fac' := by
  have n4 : (4 : Int32).toInt = 4 := by decide
  obtain ⟨a0, a1, a2, a3, a4, a5, a6, a7, a8, a9, a10, a11, a12, a13, a14, a15, a16, a17⟩ := id g
  obtain ⟨z1, z2, z3, z4, z5, z6, z7, z8, z9⟩ := ln
  obtain ⟨l1, l2, l3⟩ := rl
  have hf := i_fl a0 a1 a2 a3
  have o3 : x2.toInt < 4 → x1.toInt < wd.toInt := fun h => by
    have q := o.2.2
    rw [if_neg (fun k => absurd (i_le k) (by omega))] at q
    exact q
  have o4 : 4 ≤ x2.toInt → x1.toInt < hg.toInt := fun h => by
    have q := o.2.2
    rw [if_pos (Int32.le_iff_toInt_le.mpr (by omega))] at q
    exact q
  have q := wp_get (sf_X5_bendAndTurn (Nat.le_refl 700) a0 a1 a2 a3 a4 a5 a6 a7 a8 a9 a10 a11 a12 a13 a14 a15 a16 a17 s0 s1 s2 s3 o.2.1 o3 o4) e8
  obtain ⟨q0, q1, q2, q3, q4, q5, q6, q7, q8, q9, q10, q11, q12, q13, q14⟩ := q
  unfold fX5_bendAndTurn at e8
  obtain ⟨b0, b1, em, e8⟩ := mm_bd2s e8
  obtain ⟨-, -, et⟩ := ba_12 700 _ _ _ _ _ _ _ e8
  obtain ⟨u1, u2, u3, -, -, ⟨v1, v2, v3, v4, v5, v6, v7, v8, v9⟩⟩ := tr_e (m := (rows.toInt * cols.toInt).toNat) (by omega) (by omega) L0 L5 o.1.1 o.1.2 a8 a9 a10 a11 a15 z3 z4 z5 z6 z7 z8 z9 z1 z2 ⟨a4, a5⟩ ⟨a6, a7⟩ (fun k hk => zn_n a16 (by omega) (by omega) (by omega)) (fun k hk => zn_n a17 (by omega) (by omega) (by omega)) l1 l2 l3 et (fs_9 e9).1
  exact ⟨⟨a0, a1, a2, a3, q0, q1, q2, q3, q4, q5, q6, q7, q8, q9, q10, q11, q12, q13⟩, q14, ⟨v8, v9, v1, v2, v3, v4, v5, v6, v7⟩, u1, u2, u3⟩
theorem tf_11 {x1 x3 size rows cols : Int32} {lines ways : List Int32} {p2_rows p2_cols p2_high p2_wide p2_folds p2_wrong p2_more : Int32} {p2_R p2_C p2_B p2_F p2_W p2_A : List Int32} {sc : Int32} {stp : List Int32} {tm : Int32} {lim tape text : List Int32} (s0 : 0 ≤ sc.toInt) (s1 : sc.toInt ≤ 121) (s2 : stp.length = 121) (w12 : ways.length = 12) (sz : size.toInt ≤ 12) (hw : zn ways 0 size.toInt 0 8) : ∀ (n n' : Nat) (x5 hg wd fo wr mo : Int32) (R C B F W A be T : List Int32) (sk : Int32) (st : List Int32) (ba at_ en fa op bm bw mw aw ao z : Int32) (sR sC row col bel fac wo la nam ben hi to PS : List Int32) (r8 rows' cols' h' w' fo' wr' mo' : Int32) (R' C' B' F' W' A' be' T' : List Int32) (sk' : Int32) (st' : List Int32) (r9 ba' at' en' fa' op' bm' bw' mw' aw' ao' z' : Int32) (sR' sC' row' col' bel' fac' wo' la' nam' ben' hi' to' PS' : List Int32), fX3_tryFirst_11 700 n x1 x3 x5 size rows cols hg wd fo wr mo R C B F W A be T lines ways p2_rows p2_cols p2_high p2_wide p2_folds p2_wrong p2_more p2_R p2_C p2_B p2_F p2_W p2_A sc sk stp st = some (r8, rows', cols', h', w', fo', wr', mo', R', C', B', F', W', A', be', T', sk', st') → fX9_goesPlan_17 700 n' x1 (-1 : Int32) x5 rows cols tm ba at_ en fa op bm bw mw size aw ao z lim sR sC row col bel fac wo la tape text nam ben hi to PS lines ways = some (r9, ba', at', en', fa', op', bm', bw', mw', aw', ao', z', sR', sC', row', col', bel', fac', wo', la', nam', ben', hi', to', PS') → 0 ≤ x5.toInt → x5.toInt ≤ x1.toInt → x5.toInt ≤ size.toInt → gi_sh rows cols hg wd R C B F W A be T → st.length = 121 → ln_w sR sC row col bel fac hi to PS → lg_w 1 rows cols hg wd R C B F sR sC row col bel fac → r9 = r8 ∧ rows' = rows ∧ cols' = cols ∧ gi_sh rows cols h' w' R' C' B' F' W' A' be' T' ∧ lg_w 1 rows cols h' w' R' C' B' F' sR' sC' row' col' bel' fac' := by
  have n1 : (1 : Int32).toInt = 1 := by decide
  have y1 : (1 : Int32).toInt.toNat = 1 := by decide
  intro n
  induction n with
  | zero =>
    intro n' x5 hg wd fo wr mo R C B F W A be T sk st ba at_ en fa op bm bw mw aw ao z sR sC row col bel fac wo la nam ben hi to PS r8 rows' cols' h' w' fo' wr' mo' R' C' B' F' W' A' be' T' sk' st' r9 ba' at' en' fa' op' bm' bw' mw' aw' ao' z' sR' sC' row' col' bel' fac' wo' la' nam' ben' hi' to' PS' e8
    exact absurd e8 (by intro h; cases h)
  | succ n ih =>
    intro n' x5 hg wd fo wr mo R C B F W A be T sk st ba at_ en fa op bm bw mw aw ao z sR sC row col bel fac wo la nam ben hi to PS r8 rows' cols' h' w' fo' wr' mo' R' C' B' F' W' A' be' T' sk' st' r9 ba' at' en' fa' op' bm' bw' mw' aw' ao' z' sR' sC' row' col' bel' fac' wo' la' nam' ben' hi' to' PS' e8 e9 p0 p1 p2 G l ln rl
    cases n' with
    | zero => exact absurd e9 (by intro h; cases h)
    | succ n' =>
      rw [uf_X3_tryFirst_11] at e8
      rw [uf_X9_goesPlan_17] at e9
      by_cases c1 : x1 ≤ x5
      · have d1 := i_le c1
        rw [if_pos c1, uf_X3_tryFirst_84] at e8
        apply mm_sub18 e8
        by_cases c2 : size ≤ x5
        · have d2 := i_le c2
          rw [if_pos c2] at e9
          apply mm_sub25 e9
          exact ⟨Int32.toInt_inj.mp (by rw [i_min]; omega), rfl, rfl, G, rl⟩
        · have d2 := i_nle c2
          rw [if_neg c2, if_pos c1] at e9
          apply mm_sub25 e9
          exact ⟨Int32.toInt_inj.mp (by rw [i_min]; omega), rfl, rfl, G, rl⟩
      · have d1 := i_nle c1
        rw [if_neg c1] at e8
        by_cases c2 : size ≤ x5
        · have d2 := i_le c2
          rw [if_pos c2, uf_X3_tryFirst_84] at e8
          rw [if_pos c2] at e9
          apply mm_sub18 e8
          apply mm_sub25 e9
          exact ⟨Int32.toInt_inj.mp (by rw [i_min]; omega), rfl, rfl, G, rl⟩
        · have d2 := i_nle c2
          rw [if_neg c2] at e8
          rw [if_neg c2, if_neg c1] at e9
          have e8 := ck_x (ck_x e8)
          have e9 := ck_x (ck_x e9)
          obtain ⟨a0, a1, a2, a3, a4, a5, a6, a7, a8, a9, a10, a11, a12, a13, a14, a15, a16, a17⟩ := id G
          obtain ⟨z1, z2, z3, z4, z5, z6, z7, z8, z9⟩ := id ln
          obtain ⟨l1, l2, l3⟩ := id rl
          rw [hl_e, bs_1] at e8
          rw [il_e z1 z2 (by omega) (by omega) (show mm_ig sR (1 : Int32) = hg by rw [ge_ig, y1]; exact l1) (show mm_ig sC (1 : Int32) = wd by rw [ge_ig, y1]; exact l2) ⟨a4, a5⟩ ⟨a6, a7⟩, bs_1] at e9
          by_cases d : 1 ≤ (mm_ig lines x5).toInt ∧ (mm_ig lines x5).toInt < (if (4 : Int32) ≤ mm_ig ways x5 then hg else wd).toInt
          · rw [decide_eq_true d, if_neg (by decide)] at e8 e9
            have e8 := ck_x (ck_x e8)
            obtain ⟨b0, b1, b2, b3, b4, b5, b6, b7, b8, b9, b10, b11, b12, b13, b14, b15, eb, e8⟩ := mm_bd16s e8
            rw [nm_eq] at e8
            have e9 := ck_x e9
            rw [nm_eq, if_pos (by decide), uf_X9_goesPlan_103] at e9
            have e9 := ck_x e9
            obtain ⟨f0, f1, f2, f3, f4, f5, f6, f7, f8, f9, f10, f11, f12, f13, f14, f15, f16, f17, f18, f19, f20, ef, e9⟩ := mm_bd21s e9
            rw [nm_eq, nm_eq, nm_eq] at e9
            have hz := zn_get hw p0 p0 (by omega) (by omega)
            obtain ⟨q1, q2, q3, q4⟩ := bt_e (lv := (1 : Int32)) (by omega) (by omega) G s0 s1 s2 l ⟨⟨hz.1, by omega⟩, d⟩ ln (by rw [y1]; exact rl) eb ef
            rw [y1] at q4
            generalize hy : x5 + (1 : Int32) = y at e8 e9
            have ey := i_addE hy (by omega) (by omega)
            exact ih n' y _ _ _ _ _ _ _ _ _ _ _ _ _ _ _ _ _ _ _ _ _ _ _ _ _ _ _ _ _ _ _ _ _ _ _ _ _ _ _ _ _ _ _ _ _ _ _ _ _ _ _ _ _ _ _ _ _ _ _ _ _ _ _ _ _ _ _ _ _ _ _ _ _ _ _ _ _ _ _ _ _ _ e8 e9 (by omega) (by omega) (by omega) q1 q2 q3 q4
          · rw [decide_eq_false d, if_pos rfl] at e8 e9
            apply mm_sub18 e8
            apply mm_sub25 e9
            exact ⟨rfl, rfl, rfl, G, rl⟩
end
section
/-! Geometry: a plan tried, from its start -/
theorem tp_e {x1 x3 size : Int32} {t_rows t_cols t_high t_wide t_folds t_wrong t_more : Int32} {t_R t_C t_B t_F t_W t_A t_be t_T lines ways : List Int32} {rows cols hg wd fo wr mo : Int32} {R C B F W A nbe nT : List Int32} {sc sk : Int32} {stp st : List Int32} {r8 rows' cols' h' w' fo' wr' mo' : Int32} {R' C' B' F' W' A' be' T' : List Int32} {sk' : Int32} {st' : List Int32} {tm ba at_ en fa op bm bw mw aw ao z : Int32} {lim sR sC row col bel fac wo la tape text nam ben hi to PS : List Int32} {r9 ba' at' en' fa' op' bm' bw' mw' aw' ao' z' : Int32} {sR' sC' row' col' bel' fac' wo' la' nam' ben' hi' to' PS' : List Int32} (x0 : 0 ≤ x1.toInt) (s0 : 0 ≤ sc.toInt) (s1 : sc.toInt ≤ 121) (s2 : stp.length = 121) (s3 : st.length = 121) (w12 : ways.length = 12) (sz0 : 0 ≤ size.toInt) (sz : size.toInt ≤ 12) (hw : zn ways 0 size.toInt 0 8) (gt : gi_sh t_rows t_cols t_high t_wide t_R t_C t_B t_F t_W t_A t_be t_T) (gn : gi_sh rows cols hg wd R C B F W A nbe nT) (ln : ln_w sR sC row col bel fac hi to PS) (lw : wo.length = 384) (la_ : la.length = 384) (e8 : fX3_tryFirst 700 x1 x3 size t_rows t_cols t_high t_wide t_folds t_wrong t_more t_R t_C t_B t_F t_W t_A t_be t_T lines ways rows cols hg wd fo wr mo R C B F W A sc sk stp st = some (r8, rows', cols', h', w', fo', wr', mo', R', C', B', F', W', A', be', T', sk', st')) (e9 : fX9_goesPlan 700 x1 (-1 : Int32) rows cols tm ba at_ en fa op bm bw mw size aw ao z lim sR sC row col bel fac wo la tape text nam ben hi to PS lines ways = some (r9, ba', at', en', fa', op', bm', bw', mw', aw', ao', z', sR', sC', row', col', bel', fac', wo', la', nam', ben', hi', to', PS')) : r9 = r8 ∧ rows' = rows ∧ cols' = cols ∧ gi_sh rows cols h' w' R' C' B' F' W' A' be' T' ∧ lg_w 1 rows cols h' w' R' C' B' F' sR' sC' row' col' bel' fac' := by
  have n0 : (0 : Int32).toInt = 0 := by decide
  have n1 : (1 : Int32).toInt = 1 := by decide
  have y1 : (1 : Int32).toInt.toNat = 1 := by decide
  obtain ⟨t0, t1, t2, t3, t4, t5, t6, t7, t8, t9, t10, t11, t12, t13, t14, t15, t16, t17⟩ := gt
  obtain ⟨a0, a1, a2, a3, a4, a5, a6, a7, a8, a9, a10, a11, a12, a13, a14, a15, a16, a17⟩ := id gn
  obtain ⟨z1, z2, z3, z4, z5, z6, z7, z8, z9⟩ := id ln
  have hf := i_fl a0 a1 a2 a3
  rw [uf_X3_tryFirst] at e8
  obtain ⟨w1, w2, w3, w4, w5, w6, w7, w8, w9, w10, w11, w12', w13, eb, e8⟩ := mm_bd13s e8
  have q := wp_get (sf_X5_beginTrial (Nat.le_refl 700) t0 t1 t2 t3 t4 t5 t6 t7 t8 t9 t10 t11 t12 t13 a0 a1 a2 a3 a4 a5 a6 a7 a8 a9 a10 a11 a12 a13 a16 a17) eb
  obtain ⟨q0, q1, q2, q3, q4, q5, q6, q7, q8, q9, q10, q11, q12, q13, q14, q15, -, -⟩ := q
  unfold fX5_beginTrial at eb
  rw [cp_e t8 t9 t10 t11 t12 t13 a8 a9 a10 a11 a12 a13] at eb
  have eb2 : mm_bd3 (fX5_forgetLed 700 fo wr mo) (fun (u15 : Int32) (u16 : Int32) (u17 : Int32) => mm_bd6 (fX5_layOut 700 rows cols hg wd R C B F) (fun (u19 : Int32) (u20 : Int32) (u21 : List Int32) (u22 : List Int32) (u23 : List Int32) (u24 : List Int32) => some (rows, cols, u19, u20, u15, u16, u17, u21, u22, u23, u24, W, A))) = some (w1, w2, w3, w4, w5, w6, w7, w8, w9, w10, w11, w12', w13) := eb
  obtain ⟨u15, u16, u17, -, eb3⟩ := mm_bd3s eb2
  obtain ⟨u19, u20, u21, u22, u23, u24, el, eb4⟩ := mm_bd6s eb3
  obtain ⟨c1, c2, c3⟩ := lo_e (m := (rows.toInt * cols.toInt).toNat) (by omega) (by omega) a0 a1 a2 a3 a8 a9 a10 a11 el
  rw [uf_X9_goesPlan] at e9
  obtain ⟨x1', x2', x3', x4', x5', x6', x7', x8', es, e9⟩ := mm_bd8s e9
  obtain ⟨⟨d1, d2, d3, d4, d5, d6, d7, d8⟩, -, d10, -, -⟩ := sa_r (m := (rows.toInt * cols.toInt).toNat) (by omega) (by omega) a2 a3 (by omega) (by omega) z3 z4 z5 z6 lw la_ es
  rw [y1] at d10
  have eb5 := sm_i eb4
  injection eb5 with f1 eb5
  injection eb5 with f2 eb5
  injection eb5 with f3 eb5
  injection eb5 with f4 eb5
  injection eb5 with f5 eb5
  injection eb5 with f6 eb5
  injection eb5 with f7 eb5
  injection eb5 with f8 eb5
  injection eb5 with f9 eb5
  injection eb5 with f10 eb5
  injection eb5 with f11 eb5
  subst f1 f2 f3 f4 f8 f9 f10 f11
  refine tf_11 s0 s1 s2 w12 sz hw 700 700 (0 : Int32) _ _ _ _ _ _ _ _ _ _ _ _ _ _ _ _ _ _ _ _ _ _ _ _ _ _ _ _ _ _ _ _ _ _ _ _ _ _ _ _ _ _ _ _ _ _ _ _ _ _ _ _ _ _ _ _ _ _ _ _ _ _ _ _ _ _ _ _ _ _ _ _ _ _ _ _ _ _ _ _ _ _ e8 e9 (by omega) (by omega) (by omega) ⟨q0, q1, q2, q3, q4, q5, q6, q7, q8, q9, q10, q11, q12, q13, t14, t15, q14, q15⟩ s3 ?_ ⟨?_, ?_, ?_⟩
  · rw [d1, d2]
    exact ⟨by rw [is_len]; exact z1, by rw [is_len]; exact z2, d3, d4, d5, d6, z7, z8, z9⟩
  · rw [d1, c1, ge_is _ _ _ _ (by omega), y1, if_pos rfl]
  · rw [d2, c2, ge_is _ _ _ _ (by omega), y1, if_pos rfl]
  · exact fl_x c3 d10
/-! The plan's ways -/
theorem zx_w {ws : List Int32} {s v y : Int32} (h : zn ws 0 s.toInt 0 8) (s0 : 0 ≤ s.toInt) (hy : s + (1 : Int32) = y) (ey : y.toInt = s.toInt + 1) (v0 : 0 ≤ v.toInt) (v7 : v.toInt ≤ 7) : zn (mm_is ws s v) 0 y.toInt 0 8 := zn_ext h s0 rfl v0 (by omega) ey
theorem p9_69 {x1 x2 x3 : Int32} {sh mn : List Int32} {it : List Int64} : ∀ (n : Nat) (x4 x5 s : Int32) (ls ws : List Int32) (r s' : Int32) (ls' ws' : List Int32), fX9_plans_69 700 n x1 x2 x3 x4 x5 s ls ws sh mn it = some (r, s', ls', ws') → 0 ≤ s.toInt → s.toInt ≤ 12 → zn ws 0 s.toInt 0 8 → zn ws' 0 s'.toInt 0 8 := by
  have n1 : (1 : Int32).toInt = 1 := by decide
  have n12 : (12 : Int32).toInt = 12 := by decide
  have m0 : (0 : Int64).toInt = 0 := by decide
  have m7 : (7 : Int64).toInt = 7 := by decide
  intro n
  induction n with
  | zero =>
    intro x4 x5 s ls ws r s' ls' ws' e
    exact absurd e (by intro h; cases h)
  | succ n ih =>
    intro x4 x5 s ls ws r s' ls' ws' e p0 p1 H
    rw [uf_X9_plans_69] at e
    by_cases c1 : x5 = 0
    · rw [if_pos c1] at e
      apply mm_sub4 e
      exact H
    · rw [if_neg c1] at e
      by_cases c2 : x3 ≤ x4
      · rw [if_pos c2] at e
        apply mm_sub4 e
        exact H
      · rw [if_neg c2] at e
        have e := ck_x e
        have K0 : ∀ x6 : Int32, fX9_plans_171 700 (fX9_plans_69 700 n) x1 x2 x3 x4 x6 s ls ws sh mn it = some (r, s', ls', ws') → zn ws' 0 s'.toInt 0 8 := by
          intro x6 e
          unfold fX9_plans_171 fX9_plans_172 at e
          rw [if_pos rfl] at e
          unfold fX9_plans_228 at e
          exact ih _ _ _ _ _ _ _ _ _ e p0 p1 H
        have K1 : fX9_plans_110 700 (fX9_plans_69 700 n) x1 x2 x3 x4 s ls ws sh mn it = some (r, s', ls', ws') → zn ws' 0 s'.toInt 0 8 := by
          intro e
          unfold fX9_plans_110 fX9_plans_111 at e
          rw [nm_eq, if_pos rfl] at e
          exact K0 _ e
        by_cases c3 : (((mm_ig mn x1) - (2 : Int32)) - ((2 : Int32) * x4)) < x2
        · rw [if_pos c3] at e
          exact K1 e
        · rw [if_neg c3] at e
          by_cases c4 : (12 : Int32) ≤ s
          · rw [if_pos c4] at e
            exact K1 e
          · have d4 := i_nle c4
            rw [if_neg c4] at e
            unfold fX9_plans_111 at e
            rw [nm_eq, if_neg (by decide)] at e
            have e := ck_x e
            obtain ⟨b1, e1, e⟩ := mm_bd1s e
            by_cases g1 : b1 = false
            · rw [if_pos g1] at e
              exact K0 _ e
            · rw [if_neg g1] at e
              have e := ck_x e
              rw [wn_x, bs_1, m0, m7] at e
              by_cases g2 : 0 ≤ (mm_lg it (((((60 : Int32) * x1) + x2) + ((2 : Int32) * x4)) + (1 : Int32))).toInt ∧ (mm_lg it (((((60 : Int32) * x1) + x2) + ((2 : Int32) * x4)) + (1 : Int32))).toInt ≤ 7
              · rw [decide_eq_true g2, if_neg (by decide)] at e
                unfold fX9_plans_172 at e
                rw [if_neg (by decide)] at e
                have e := ck_x e
                rw [nm_eq] at e
                have e := ck_x e
                rw [nm_eq] at e
                have e := ck_x e
                rw [nm_eq] at e
                have e := ck_x e
                rw [nm_eq, nm_eq, nm_eq] at e
                unfold fX9_plans_228 at e
                generalize hy : s + (1 : Int32) = y at e
                have ey := i_addE hy (by omega) (by omega)
                have hv : ((mm_lg it (((((60 : Int32) * x1) + x2) + ((2 : Int32) * x4)) + (1 : Int32))).toInt32).toInt = (mm_lg it (((((60 : Int32) * x1) + x2) + ((2 : Int32) * x4)) + (1 : Int32))).toInt := by
                  rw [Int64.toInt_toInt32]
                  exact Int.bmod_eq_of_le (by omega) (by omega)
                exact ih _ _ _ _ _ _ _ _ _ e (by omega) (by omega) (zx_w H p0 hy (by omega) (by omega) (by omega))
              · rw [decide_eq_false g2, if_pos rfl] at e
                exact K0 _ e
theorem p9_s {x1 x2 x3 s r s' : Int32} {ls ws ls' ws' sh mn : List Int32} {it : List Int64} (p0 : 0 ≤ s.toInt) (p1 : s.toInt ≤ 12) (H : zn ws 0 s.toInt 0 8) (e : fX9_plans 700 x1 x2 x3 s ls ws sh mn it = some (r, s', ls', ws')) : zn ws' 0 s'.toInt 0 8 := by
  have K : ∀ k : Int32, fX9_plans_67 700 x1 x2 x3 (0 : Int32) k s ls ws sh mn it = some (r, s', ls', ws') → zn ws' 0 s'.toInt 0 8 := fun k e => by
    unfold fX9_plans_67 at e
    exact p9_69 _ _ _ _ _ _ _ _ _ _ e p0 p1 H
  have K2 : fX9_plans_44 700 x1 x2 x3 s ls ws sh mn it = some (r, s', ls', ws') → zn ws' 0 s'.toInt 0 8 := fun e => by
    unfold fX9_plans_44 at e
    have e := ck_x e
    by_cases c : mm_ig sh x1 = (50 : Int32)
    · rw [if_pos c] at e
      by_cases d : x2 < 0
      · rw [if_pos d] at e
        unfold fX9_plans_66 at e
        exact K _ e
      · rw [if_neg d] at e
        exact K _ e
    · rw [if_neg c] at e
      unfold fX9_plans_66 at e
      exact K _ e
  unfold fX9_plans at e
  obtain ⟨b1, -, e⟩ := mm_bd1s e
  by_cases g1 : b1 = false
  · rw [if_pos g1] at e
    apply mm_sub4 e
    exact H
  · rw [if_neg g1] at e
    obtain ⟨b2, -, e⟩ := mm_bd1s e
    by_cases g2 : b2 = false
    · rw [if_pos g2] at e
      apply mm_sub4 e
      exact H
    · rw [if_neg g2] at e
      have e := ck_x e
      by_cases g3 : mm_ig sh x1 < 0
      · rw [if_pos g3] at e
        exact K2 e
      · rw [if_neg g3] at e
        have e := ck_x e
        by_cases g4 : mm_ig sh x1 = (50 : Int32)
        · rw [if_pos g4] at e
          exact K2 e
        · rw [if_neg g4] at e
          apply mm_sub4 e
          exact H
theorem p9_p {x1 x2 s r s' : Int32} {ls ws ls' ws' : List Int32} (p0 : 0 ≤ s.toInt) (p1 : s.toInt ≤ 12) (H : zn ws 0 s.toInt 0 8) (e : fX9_plan 700 x1 x2 s ls ws = some (r, s', ls', ws')) : zn ws' 0 s'.toInt 0 8 := by
  have n0 : (0 : Int32).toInt = 0 := by decide
  have n1 : (1 : Int32).toInt = 1 := by decide
  have n12 : (12 : Int32).toInt = 12 := by decide
  have m0 : (0 : Int64).toInt = 0 := by decide
  have m7 : (7 : Int64).toInt = 7 := by decide
  unfold fX9_plan at e
  by_cases c : x1 = 0
  · rw [if_pos c] at e
    apply mm_sub4 e
    exact zn_nil (by omega)
  · rw [if_neg c] at e
    obtain ⟨b1, -, e⟩ := mm_bd1s e
    by_cases g1 : b1 = false
    · rw [if_pos g1] at e
      apply mm_sub4 e
      exact H
    · rw [if_neg g1, wn_x, bs_1, i_64, m0, m7] at e
      by_cases g2 : 0 ≤ x2.toInt ∧ x2.toInt ≤ 7
      · rw [decide_eq_true g2, if_neg (by decide)] at e
        by_cases g3 : s = (12 : Int32)
        · rw [if_pos g3] at e
          apply mm_sub4 e
          exact H
        · have d3 := i_ne g3
          rw [if_neg g3] at e
          have e := ck_x e
          rw [nm_eq] at e
          have e := ck_x e
          rw [nm_eq, nm_eq] at e
          generalize hy : s + (1 : Int32) = y at e
          have ey := i_addE hy (by omega) (by omega)
          apply mm_sub4 e
          exact zx_w H p0 hy (by omega) g2.1 g2.2
      · rw [decide_eq_false g2, if_pos rfl] at e
        apply mm_sub4 e
        exact H
end
section
/-! The law: steps and stacks -/
def jn_w (c a b : Int32) : Int32 := if c = 124 then (if a = 0 then (if b = 0 then 0 else 1) else 1) else if c = 38 then (if a = 0 then 0 else (if b = 0 then 0 else 1)) else if c = 60 then (if b ≤ a then 0 else 1) else if c = 61 then (if a = b then 1 else 0) else if c = 62 then (if a ≤ b then 0 else 1) else if c = 43 then a + b else if c = 45 then a - b else if c = 42 then a * b else if c = 47 then (if b = 0 then 0 else a / b) else if c = 37 then (if b = 0 then 0 else mm_rem a b) else 0
/-- names by their letters -/
def nw_w (nm : List Int32) (c : Int32) : Int32 := if c = 98 then nm.getD 5 0 else if c = 102 then nm.getD 4 0 else if c = 107 then nm.getD 3 0 else if c = 110 then nm.getD 0 0 else if c = 114 then nm.getD 2 0 else nm.getD 1 0
def na_w (c : Int32) : Prop := c = 98 ∨ c = 102 ∨ c = 107 ∨ c = 110 ∨ c = 114 ∨ c = 119
def bi_w (c : Int32) : Prop := c = 124 ∨ c = 38 ∨ c = 60 ∨ c = 61 ∨ c = 62 ∨ c = 43 ∨ c = 45 ∨ c = 42 ∨ c = 47 ∨ c = 37
/-- a step: what it does to a stack, the topmost first -/
def sx_w (nm : List Int32) (c : Int32) (S : List Int32) : List Int32 := if c = 98 ∨ c = 102 ∨ c = 107 ∨ c = 110 ∨ c = 114 ∨ c = 119 then nw_w nm c :: S else if c = 33 then (if S.headD 0 = 0 then (1 : Int32) else (0 : Int32)) :: S.tail else if c = 126 then (-(S.headD 0)) :: S.tail else if (1000 : Int32) ≤ c then (c - (1000 : Int32)) :: S else jn_w c (S.tail.headD 0) (S.headD 0) :: S.tail.tail
def xs_w (nm : List Int32) : List Int32 → List Int32 → List Int32
  | [], S => S
  | c :: cs, S => xs_w nm cs (sx_w nm c S)
theorem xs_a (nm : List Int32) : ∀ (a b S : List Int32), xs_w nm (a ++ b) S = xs_w nm b (xs_w nm a S) := by
  intro a
  induction a with
  | nil =>
    intro b S
    rfl
  | cons c a ih =>
    intro b S
    exact ih b (sx_w nm c S)
theorem sx_b {nm : List Int32} {c a b : Int32} {S : List Int32} (h : bi_w c) : sx_w nm c (b :: a :: S) = jn_w c a b :: S := by
  unfold sx_w
  rcases h with h | h | h | h | h | h | h | h | h | h <;> subst h <;> rfl
theorem sx_n {nm : List Int32} {c : Int32} {S : List Int32} (h : na_w c) : sx_w nm c S = nw_w nm c :: S := by
  unfold sx_w
  exact if_pos h
/-- the steps cs stand in D1 from dc on, all ahead of them as in D -/
def cs_w (dc : Nat) (D D1 cs : List Int32) : Prop := D1.length = 121 ∧ (∀ k : Nat, k < dc → D1.getD k 0 = D.getD k 0) ∧ ∀ i : Nat, i < cs.length → D1.getD (dc + i) 0 = cs.getD i 0
theorem cs_0 {dc : Nat} {D : List Int32} (h : D.length = 121) : cs_w dc D D [] := ⟨h, fun _ _ => rfl, fun i hi => absurd hi (by rw [List.length_nil]; omega)⟩
theorem cs_t {dc : Nat} {D D1 D2 a b : List Int32} (h1 : cs_w dc D D1 a) (h2 : cs_w (dc + a.length) D1 D2 b) : cs_w dc D D2 (a ++ b) := by
  refine ⟨h2.1, fun k hk => ?_, fun i hi => ?_⟩
  · rw [h2.2.1 k (by omega), h1.2.1 k hk]
  · rw [List.length_append] at hi
    by_cases g : i < a.length
    · rw [h2.2.1 (dc + i) (by omega), h1.2.2 i g, List.getD_eq_getElem?_getD, List.getD_eq_getElem?_getD, List.getElem?_append_left g]
    · have e : dc + i = dc + a.length + (i - a.length) := by omega
      rw [e, h2.2.2 (i - a.length) (by omega), List.getD_eq_getElem?_getD, List.getD_eq_getElem?_getD, List.getElem?_append_right (by omega)]
theorem no_e {c dc dc' : Int32} {D D' : List Int32} (h0 : 0 ≤ dc.toInt) (h1 : dc.toInt < 121) (hl : D.length = 121) (e : fX2_note 700 c dc D = some (dc', D')) : dc'.toInt = dc.toInt + 1 ∧ cs_w dc.toInt.toNat D D' [c] := by
  have n121 : (121 : Int32).toInt = 121 := by decide
  have n1 : (1 : Int32).toInt = 1 := by decide
  unfold fX2_note at e
  rw [if_neg (fun k => absurd (i_le k) (by omega))] at e
  have e := ck_x e
  rw [nm_eq, nm_eq] at e
  have e := sm_i e
  injection e with e1 e2
  subst e1
  subst e2
  refine ⟨i_addE rfl (by omega) (by omega), by rw [is_len]; exact hl, fun k hk => ?_, fun i hi => ?_⟩
  · rw [ge_is _ _ _ _ (by omega), if_neg (by omega)]
  · have : i = 0 := by
      rw [List.length_singleton] at hi
      omega
    subst this
    rw [Nat.add_zero, ge_is _ _ _ _ (by omega), if_pos rfl]
    rfl
/-- steps that are neither ; nor ? -/
def pu_w (cs : List Int32) : Prop := ∀ c ∈ cs, ¬ c = 59 ∧ ¬ c = 63
theorem pu_a {a b : List Int32} (h1 : pu_w a) (h2 : pu_w b) : pu_w (a ++ b) := fun c hc => by
  rcases List.mem_append.mp hc with h | h
  · exact h1 c h
  · exact h2 c h
theorem pu_1 {c : Int32} (h : ¬ c = 59 ∧ ¬ c = 63) : pu_w [c] := fun x hx => by
  rw [List.mem_singleton.mp hx]
  exact h
theorem pu_0 : pu_w [] := fun x hx => by cases hx
theorem bi_u {c : Int32} (h : bi_w c) : ¬ c = 59 ∧ ¬ c = 63 := by
  rcases h with h | h | h | h | h | h | h | h | h | h <;> subst h <;> decide
theorem na_u {c : Int32} (h : na_w c) : ¬ c = 59 ∧ ¬ c = 63 := by
  rcases h with h | h | h | h | h | h <;> subst h <;> decide
/-- some steps that read a part of the text: alike in class and reference -/
def pq_w (nm : List Int32) (I : List Int32 → List Int32) (n d dc p : Int32) (D : List Int32) (dc' p' f' : Int32) (D' : List Int32) (v a9 f9 o9 : Int32) : Prop := f9 = f' ∧ (0 ≤ f'.toInt ∨ (f' = -1 ∧ a9 = p' ∧ o9 = d ∧ p.toInt ≤ p'.toInt ∧ p'.toInt ≤ n.toInt ∧ ∃ cs : List Int32, cs_w dc.toInt.toNat D D' cs ∧ dc'.toInt = dc.toInt + cs.length ∧ (cs.length : Int) ≤ p'.toInt - p.toInt ∧ pu_w cs ∧ ∀ S : List Int32, xs_w nm cs (I S) = v :: S))
/-- where reading begins -/
def pb_w (n dc p : Int32) (D : List Int32) : Prop := 0 ≤ dc.toInt ∧ dc.toInt ≤ p.toInt ∧ p.toInt ≤ n.toInt ∧ n.toInt ≤ 120 ∧ D.length = 121
theorem pq_b {nm : List Int32} {I : List Int32 → List Int32} {n d dc p dc' p' f' v a9 f9 o9 : Int32} {D D' : List Int32} (b : pb_w n dc p D) (h : pq_w nm I n d dc p D dc' p' f' D' v a9 f9 o9) (hf : ¬ 0 ≤ f'.toInt) : pb_w n dc' p' D' := by
  obtain ⟨b1, b2, b3, b4, b5⟩ := b
  obtain ⟨-, h | ⟨-, -, -, h4, h5, cs, h6, h7, h8, -⟩⟩ := h
  · exact absurd h hf
  · exact ⟨by omega, by omega, h5, b4, h6.1⟩
/-- one part behind another -/
theorem pq_t {nm : List Int32} {I : List Int32 → List Int32} {n d dc p dc1 p1 f1 v1 a1 g1 o1 dc2 p2 f2 v2 a2 g2 o2 : Int32} {D D1 D2 : List Int32} (hd : 0 ≤ dc.toInt) (h1 : pq_w nm I n d dc p D dc1 p1 f1 D1 v1 a1 g1 o1) (hf : ¬ 0 ≤ f1.toInt) (h2 : pq_w nm (fun S => v1 :: S) n d dc1 p1 D1 dc2 p2 f2 D2 v2 a2 g2 o2) : pq_w nm I n d dc p D dc2 p2 f2 D2 v2 a2 g2 o2 := by
  obtain ⟨-, h1 | ⟨-, -, -, x4, x5, cs, x6, x7, x8, xp, x9⟩⟩ := h1
  · exact absurd h1 hf
  · obtain ⟨y1, h2 | ⟨y2, y3, y4, y5, y6, cs2, y7, y8, y9, yp, y10⟩⟩ := h2
    · exact ⟨y1, Or.inl h2⟩
    · refine ⟨y1, Or.inr ⟨y2, y3, y4, by omega, y6, cs ++ cs2, ?_, ?_, ?_, pu_a xp yp, fun S => ?_⟩⟩
      · refine cs_t x6 ?_
        have e : dc.toInt.toNat + cs.length = dc1.toInt.toNat := by omega
        rw [e]
        exact y7
      · rw [List.length_append]
        omega
      · rw [List.length_append]
        omega
      · rw [xs_a, x9]
        exact y10 S
/-- an operator, what follows it, its step -/
theorem pq_o {nm : List Int32} {n d dc p p1 dc1 p2 f1 v w a1 g1 o1 dc2 c : Int32} {D D1 D2 : List Int32} (hb : pb_w n dc p D) (hp : p1.toInt = p.toInt + 1) (h1 : pq_w nm id n d dc p1 D dc1 p2 f1 D1 w a1 g1 o1) (hf : ¬ 0 ≤ f1.toInt) (hc : bi_w c) (hn : fX2_note 700 c dc1 D1 = some (dc2, D2)) : pq_w nm (fun S => v :: S) n d dc p D dc2 p2 f1 D2 (jn_w c v w) a1 g1 o1 := by
  obtain ⟨b1, b2, b3, b4, b5⟩ := hb
  obtain ⟨x1, h1 | ⟨x2, x3, x3', x4, x5, cs, x6, x7, x8, xp, x9⟩⟩ := h1
  · exact absurd h1 hf
  · obtain ⟨y1, y2⟩ := no_e (by omega) (by omega) x6.1 hn
    refine ⟨x1, Or.inr ⟨x2, x3, x3', by omega, x5, cs ++ [c], ?_, ?_, ?_, pu_a xp (pu_1 (bi_u hc)), fun S => ?_⟩⟩
    · refine cs_t x6 ?_
      have e : dc.toInt.toNat + cs.length = dc1.toInt.toNat := by omega
      rw [e]
      exact y2
    · rw [List.length_append, List.length_singleton]
      omega
    · rw [List.length_append, List.length_singleton]
      omega
    · rw [xs_a]
      show xs_w nm [c] (xs_w nm cs (id (v :: S))) = _
      rw [x9]
      exact sx_b hc
theorem pq_s {nm : List Int32} {n d dc p v : Int32} {D : List Int32} (b : pb_w n dc p D) : pq_w nm (fun S => v :: S) n d dc p D dc p (-1) D v p (-1) d := ⟨rfl, Or.inr ⟨rfl, rfl, rfl, Int.le_refl _, b.2.2.1, [], cs_0 b.2.2.2.2, by rw [List.length_nil]; omega, by rw [List.length_nil]; omega, pu_0, fun _ => rfl⟩⟩
/-- the byte at a place, as the class reads it and as the reference does -/
def nb_8 (b : Nat → Int32) (n p : Int32) : Int32 := if n ≤ p then -1 else b p.toInt.toNat
def nb_9 (b : Nat → Int32) (n p : Int32) : Int32 := if n ≤ p then 0 else b p.toInt.toNat
theorem nx_e {n p r : Int32} {tape : List Int32} (e : fX2_next 700 n p tape = some r) : r = nb_8 (fun k => tape.getD k 0) n p := by
  unfold fX2_next at e
  unfold nb_8
  by_cases c : n ≤ p
  · rw [if_pos c] at e ⊢
    exact (sm_i e).symm
  · rw [if_neg c] at e ⊢
    exact (sm_i (ck_x e)).symm
theorem nb_c {b : Nat → Int32} {n p c : Int32} (h0 : ¬ c = 0) (h1 : ¬ c = -1) : (nb_9 b n p = c) ↔ (nb_8 b n p = c) := by
  unfold nb_8 nb_9
  by_cases g : n ≤ p
  · rw [if_pos g, if_pos g]
    exact ⟨fun h => absurd h.symm h0, fun h => absurd h.symm h1⟩
  · rw [if_neg g, if_neg g]
theorem nb_l {b : Nat → Int32} {n p c : Int32} (h1 : ¬ c = -1) (h : nb_8 b n p = c) : p.toInt < n.toInt := by
  unfold nb_8 at h
  by_cases g : n ≤ p
  · rw [if_pos g] at h
    exact absurd h.symm h1
  · exact i_nle g
theorem me_e {c n p f : Int32} {r : Bool} {tape : List Int32} (e : fX2_meets 700 c n p f tape = some r) : r = if 0 ≤ f.toInt then false else decide (nb_8 (fun k => tape.getD k 0) n p = c) := by
  have n0 : (0 : Int32).toInt = 0 := by decide
  unfold fX2_meets at e
  by_cases g : (0 : Int32) ≤ f
  · have d := i_le g
    rw [if_pos g] at e
    rw [if_pos (by omega)]
    exact (sm_i e).symm
  · have d := i_nle g
    rw [if_neg g] at e
    rw [if_neg (by omega)]
    obtain ⟨s, es, e⟩ := mm_bd1s e
    have hs := nx_e es
    rw [← hs]
    by_cases k : s = c
    · rw [if_pos k] at e
      rw [decide_eq_true k]
      exact (sm_i e).symm
    · rw [if_neg k] at e
      rw [decide_eq_false k]
      exact (sm_i e).symm
/-- the reference's bytes are b -/
def hb_w (b : Nat → Int32) (base n : Int32) (tape text : List Int32) : Prop := ∀ p r : Int32, 0 ≤ p.toInt → fX9_byteAt 700 base p n tape text = some r → r = nb_9 b n p
theorem tk_e {b : Nat → Int32} {base c n p f a : Int32} {r : Bool} {tape text : List Int32} (H : hb_w b base n tape text) (p0 : 0 ≤ p.toInt) (e : fX9_takes 700 c base p n f tape text = some (r, a)) : r = (if 0 ≤ f.toInt then false else decide (nb_9 b n p = c)) ∧ a = if r = true then p + (1 : Int32) else p := by
  have n0 : (0 : Int32).toInt = 0 := by decide
  unfold fX9_takes at e
  by_cases g : (0 : Int32) ≤ f
  · have d := i_le g
    rw [if_pos g] at e
    rw [if_pos (by omega)]
    apply mm_sub2 e
    exact ⟨rfl, rfl⟩
  · have d := i_nle g
    rw [if_neg g] at e
    rw [if_neg (by omega)]
    obtain ⟨s, es, e⟩ := mm_bd1s e
    have hs := H p s p0 es
    rw [← hs]
    by_cases k : s = c
    · rw [if_pos k, nm_eq] at e
      rw [decide_eq_true k]
      apply mm_sub2 e
      exact ⟨rfl, rfl⟩
    · rw [if_neg k] at e
      rw [decide_eq_false k]
      apply mm_sub2 e
      exact ⟨rfl, rfl⟩
end
section
/-! The law: products, sums -/
def rg_w (tape8 : List Int32) (base n : Int32) (tape text names : List Int32) (go8 : Int32 → Int32 → Int32 → Int32 → Int32 → List Int32 → List Int32 → Option (Int32 × Int32 × Int32 × List Int32)) (go9 : Int32 → Int32 → Int32 → Int32 → Int32 → List Int32 → List Int32 → List Int32 → Option (Int32 × Int32 × Int32 × Int32)) : Prop := ∀ (d dc p : Int32) (D : List Int32) (dc' p' f' : Int32) (D' : List Int32) (v a9 f9 o9 : Int32), 0 ≤ d.toInt → d.toInt ≤ 6 → pb_w n dc p D → go8 d n dc p (-1) tape8 D = some (dc', p', f', D') → go9 base p n (-1) d tape text names = some (v, a9, f9, o9) → pq_w names id n d dc p D dc' p' f' D' v a9 f9 o9
theorem m1_f : ¬ 0 ≤ (-1 : Int32).toInt := by decide
theorem pb_n {n dc p p1 : Int32} {D : List Int32} (b : pb_w n dc p D) (hp : p1.toInt = p.toInt + 1) (hl : p.toInt < n.toInt) : pb_w n dc p1 D := ⟨b.1, by have := b.2.1; omega, by omega, b.2.2.2.1, b.2.2.2.2⟩
theorem pd_f {go : Int32 → Int32 → Int32 → Int32 → Int32 → List Int32 → List Int32 → Option (Int32 × Int32 × Int32 × List Int32)} {d n : Int32} {tape8 : List Int32} {m : Nat} {i dc p f dc' p' f' : Int32} {D D' : List Int32} (hf : 0 ≤ f.toInt) (e : fX2_readProduct_7 700 go m d i n dc p f tape8 D = some (dc', p', f', D')) : f' = f := by
  cases m with
  | zero => exact absurd e (by intro h; cases h)
  | succ m =>
    rw [uf_X2_readProduct_7] at e
    by_cases c : (120 : Int32) ≤ i
    · rw [if_pos c] at e
      apply mm_sub4 e
      rfl
    · rw [if_neg c] at e
      obtain ⟨r1, m1, e⟩ := mm_bd1s e
      have h1 := me_e m1
      rw [if_pos hf] at h1
      rw [if_pos h1] at e
      obtain ⟨r2, m2, e⟩ := mm_bd1s e
      have h2 := me_e m2
      rw [if_pos hf] at h2
      rw [if_pos h2] at e
      obtain ⟨r3, m3, e⟩ := mm_bd1s e
      have h3 := me_e m3
      rw [if_pos hf] at h3
      rw [if_pos h3] at e
      apply mm_sub4 e
      rfl
theorem pd_g {go : Int32 → Int32 → Int32 → Int32 → Int32 → List Int32 → List Int32 → List Int32 → Option (Int32 × Int32 × Int32 × Int32)} {base at_ n f d v x2 v' a9 f9 o9 : Int32} {tape text names : List Int32} {m : Nat} (hf : 0 ≤ f.toInt) (e : fX9_product_85 700 go (fX9_product_10 700 go m) v base at_ n f d tape text names = some (v', a9, f9, o9)) : f9 = f := by
  have n0 : (0 : Int32).toInt = 0 := by decide
  rw [uf_X9_product_85] at e
  obtain ⟨r, -, e⟩ := mm_bd1s e
  cases m with
  | zero => exact absurd e (by intro h; cases h)
  | succ m =>
    rw [uf_X9_product_10, if_pos (Int32.le_iff_toInt_le.mpr (by omega))] at e
    apply mm_sub4 e
    rfl
theorem pd_7 {go8 : Int32 → Int32 → Int32 → Int32 → Int32 → List Int32 → List Int32 → Option (Int32 × Int32 × Int32 × List Int32)} {go9 : Int32 → Int32 → Int32 → Int32 → Int32 → List Int32 → List Int32 → List Int32 → Option (Int32 × Int32 × Int32 × Int32)} {tape8 : List Int32} {base n d : Int32} {tape text names : List Int32} (HB : hb_w (fun k => tape8.getD k 0) base n tape text) (RG : rg_w tape8 base n tape text names go8 go9) (d0 : 0 ≤ d.toInt) (d6 : d.toInt ≤ 6) : ∀ (m m' : Nat) (i dc p : Int32) (D : List Int32) (v x2 dc' p' f' : Int32) (D' : List Int32) (v' a9 f9 o9 : Int32), pb_w n dc p D → 0 ≤ i.toInt → i.toInt ≤ p.toInt → x2 = nb_9 (fun k => tape8.getD k 0) n p → fX2_readProduct_7 700 go8 m d i n dc p (-1) tape8 D = some (dc', p', f', D') → fX9_product_10 700 go9 m' v x2 base p n (-1) d tape text names = some (v', a9, f9, o9) → pq_w names (fun S => v :: S) n d dc p D dc' p' f' D' v' a9 f9 o9 := by
  have n1 : (1 : Int32).toInt = 1 := by decide
  have n120 : (120 : Int32).toInt = 120 := by decide
  intro m
  induction m with
  | zero =>
    intro m' i dc p D v x2 dc' p' f' D' v' a9 f9 o9 hb i0 i1 hx e8
    exact absurd e8 (by intro h; cases h)
  | succ m ih =>
    intro m' i dc p D v x2 dc' p' f' D' v' a9 f9 o9 hb i0 i1 hx e8 e9
    cases m' with
    | zero => exact absurd e9 (by intro h; cases h)
    | succ m' =>
      obtain ⟨b1, b2, b3, b4, b5⟩ := id hb
      rw [uf_X2_readProduct_7] at e8
      rw [uf_X9_product_10, if_neg (by decide)] at e9
      have K : ∀ c : Int32, (c = 42 ∨ c = 47 ∨ c = 37) → nb_8 (fun k => tape8.getD k 0) n p = c → fX2_readProduct_40 700 go8 (fX2_readProduct_7 700 go8 m) d i n dc p (-1) tape8 D = some (dc', p', f', D') → fX9_product_35 700 go9 (fX9_product_10 700 go9 m') v c base p n (-1) d tape text names = some (v', a9, f9, o9) → pq_w names (fun S => v :: S) n d dc p D dc' p' f' D' v' a9 f9 o9 := by
        intro c hc hby e8 e9
        have hc1 : ¬ c = -1 := by rcases hc with h | h | h <;> rw [h] <;> decide
        have hcb : bi_w c := by
          unfold bi_w
          rcases hc with h | h | h
          · exact Or.inr (Or.inr (Or.inr (Or.inr (Or.inr (Or.inr (Or.inr (Or.inl h)))))))
          · exact Or.inr (Or.inr (Or.inr (Or.inr (Or.inr (Or.inr (Or.inr (Or.inr (Or.inl h))))))))
          · exact Or.inr (Or.inr (Or.inr (Or.inr (Or.inr (Or.inr (Or.inr (Or.inr (Or.inr h))))))))
        have hlt := nb_l hc1 hby
        rw [uf_X2_readProduct_40] at e8
        obtain ⟨r16, n16, e8⟩ := mm_bd1s e8
        have h16 := nx_e n16
        rw [hby] at h16
        subst h16
        rw [nm_eq] at e8
        rw [uf_X9_product_35, nm_eq] at e9
        generalize hy : p + (1 : Int32) = p1 at e8 e9
        have ey := i_addE hy (by omega) (by omega)
        obtain ⟨dc1, p2, f1, D1, eg8, e8⟩ := mm_bd4s e8
        obtain ⟨dc2, D2, en, e8⟩ := mm_bd2s e8
        rw [nm_eq] at e8
        obtain ⟨w, a1, g1, o1, eg9, e10⟩ := mm_bd4s e9
        clear e9
        have e9 := e10
        clear e10
        have q := RG d dc p1 D dc1 p2 f1 D1 w a1 g1 o1 d0 d6 (pb_n hb (by omega) hlt) eg8 eg9
        have e9' : fX9_product_85 700 go9 (fX9_product_10 700 go9 m') (jn_w r16 v w) base a1 n g1 o1 tape text names = some (v', a9, f9, o9) := by
          rcases hc with h | h | h
          · rw [if_pos h] at e9
            subst h
            exact e9
          · rw [if_neg (by rw [h]; decide)] at e9
            subst h
            by_cases hw : w = 0
            · rw [if_pos hw] at e9
              have : jn_w 47 v w = 0 := by
                unfold jn_w
                rw [if_neg (by decide), if_neg (by decide), if_neg (by decide), if_neg (by decide), if_neg (by decide), if_neg (by decide), if_neg (by decide), if_neg (by decide), if_pos rfl, if_pos hw]
              rw [this]
              exact e9
            · rw [if_neg hw, if_pos rfl] at e9
              have : jn_w 47 v w = v / w := by
                unfold jn_w
                rw [if_neg (by decide), if_neg (by decide), if_neg (by decide), if_neg (by decide), if_neg (by decide), if_neg (by decide), if_neg (by decide), if_neg (by decide), if_pos rfl, if_neg hw]
              rw [this]
              exact ck_x e9
          · rw [if_neg (by rw [h]; decide)] at e9
            subst h
            by_cases hw : w = 0
            · rw [if_pos hw] at e9
              have : jn_w 37 v w = 0 := by
                unfold jn_w
                rw [if_neg (by decide), if_neg (by decide), if_neg (by decide), if_neg (by decide), if_neg (by decide), if_neg (by decide), if_neg (by decide), if_neg (by decide), if_neg (by decide), if_pos rfl, if_pos hw]
              rw [this]
              exact e9
            · rw [if_neg hw, if_neg (by decide)] at e9
              have : jn_w 37 v w = mm_rem v w := by
                unfold jn_w
                rw [if_neg (by decide), if_neg (by decide), if_neg (by decide), if_neg (by decide), if_neg (by decide), if_neg (by decide), if_neg (by decide), if_neg (by decide), if_neg (by decide), if_pos rfl, if_neg hw]
              rw [this]
              exact ck_x e9
        by_cases hf : 0 ≤ f1.toInt
        · have q8 := pd_f hf e8
          have q9 := pd_g (x2 := 0) (by rw [q.1]; exact hf) e9'
          exact ⟨by rw [q8, q9]; exact q.1, Or.inl (by rw [q8]; exact hf)⟩
        · have st := pq_o (v := v) hb (by omega) q hf hcb en
          have qb := pq_b hb st hf
          obtain ⟨z1, z2 | ⟨z2, z3, z4, z5, z6, -⟩⟩ := q
          · exact absurd z2 hf
          · rw [z1, z2] at e9'
            rw [z2] at e8 st
            rw [z3, z4] at e9'
            rw [uf_X9_product_85] at e9'
            obtain ⟨r23, n23, e9'⟩ := mm_bd1s e9'
            have h23 := HB p2 r23 (by omega) n23
            generalize hj : i + (1 : Int32) = j at e8
            have ej := i_addE hj (by omega) (by omega)
            have IH := ih m' j dc2 p2 D2 (jn_w r16 v w) r23 dc' p' f' D' v' a9 f9 o9 qb (by omega) (by omega) h23 e8 e9'
            exact pq_t b1 st m1_f IH
      by_cases c0 : (120 : Int32) ≤ i
      · have d0' := i_le c0
        rw [if_pos c0] at e8
        have hx0 : x2 = 0 := by
          rw [hx]
          unfold nb_9
          rw [if_pos (Int32.le_iff_toInt_le.mpr (by omega))]
        rw [hx0, if_neg (by decide), if_neg (by decide), if_neg (by decide)] at e9
        apply mm_sub4 e8
        apply mm_sub4 e9
        exact pq_s hb
      · rw [if_neg c0] at e8
        obtain ⟨r1, m1, e8⟩ := mm_bd1s e8
        have h1 := me_e m1
        rw [if_neg m1_f] at h1
        by_cases k1 : nb_8 (fun k => tape8.getD k 0) n p = 42
        · rw [decide_eq_true k1] at h1
          rw [if_neg (by rw [h1]; decide)] at e8
          have hx1 : x2 = 42 := by rw [hx]; exact (nb_c (by decide) (by decide)).mpr k1
          rw [if_pos hx1, hx1] at e9
          exact K 42 (Or.inl rfl) k1 e8 e9
        · rw [decide_eq_false k1] at h1
          have hx1 : ¬ x2 = 42 := fun h => k1 ((nb_c (by decide) (by decide)).mp (by rw [← hx]; exact h))
          rw [if_pos h1] at e8
          rw [if_neg hx1] at e9
          obtain ⟨r2, m2, e8⟩ := mm_bd1s e8
          have h2 := me_e m2
          rw [if_neg m1_f] at h2
          by_cases k2 : nb_8 (fun k => tape8.getD k 0) n p = 47
          · rw [decide_eq_true k2] at h2
            rw [if_neg (by rw [h2]; decide)] at e8
            have hx2 : x2 = 47 := by rw [hx]; exact (nb_c (by decide) (by decide)).mpr k2
            rw [if_pos hx2, hx2] at e9
            exact K 47 (Or.inr (Or.inl rfl)) k2 e8 e9
          · rw [decide_eq_false k2] at h2
            have hx2 : ¬ x2 = 47 := fun h => k2 ((nb_c (by decide) (by decide)).mp (by rw [← hx]; exact h))
            rw [if_pos h2] at e8
            rw [if_neg hx2] at e9
            obtain ⟨r3, m3, e8⟩ := mm_bd1s e8
            have h3 := me_e m3
            rw [if_neg m1_f] at h3
            by_cases k3 : nb_8 (fun k => tape8.getD k 0) n p = 37
            · rw [decide_eq_true k3] at h3
              rw [if_neg (by rw [h3]; decide)] at e8
              have hx3 : x2 = 37 := by rw [hx]; exact (nb_c (by decide) (by decide)).mpr k3
              rw [if_pos hx3, hx3] at e9
              exact K 37 (Or.inr (Or.inr rfl)) k3 e8 e9
            · rw [decide_eq_false k3] at h3
              have hx3 : ¬ x2 = 37 := fun h => k3 ((nb_c (by decide) (by decide)).mp (by rw [← hx]; exact h))
              rw [if_pos h3] at e8
              rw [if_neg hx3] at e9
              apply mm_sub4 e8
              apply mm_sub4 e9
              exact pq_s hb
theorem pd_r {go8 : Int32 → Int32 → Int32 → Int32 → Int32 → List Int32 → List Int32 → Option (Int32 × Int32 × Int32 × List Int32)} {go9 : Int32 → Int32 → Int32 → Int32 → Int32 → List Int32 → List Int32 → List Int32 → Option (Int32 × Int32 × Int32 × Int32)} {tape8 : List Int32} {base n : Int32} {tape text names : List Int32} (HB : hb_w (fun k => tape8.getD k 0) base n tape text) (RG : rg_w tape8 base n tape text names go8 go9) : rg_w tape8 base n tape text names (fX2_readProduct 700 go8) (fX9_product 700 go9) := by
  intro d dc p D dc' p' f' D' v a9 f9 o9 d0 d6 hb e8 e9
  have n0 : (0 : Int32).toInt = 0 := by decide
  obtain ⟨b1, b2, b3, b4, b5⟩ := id hb
  unfold fX2_readProduct at e8
  unfold fX9_product at e9
  obtain ⟨dc1, p1, f1, D1, eg8, e8⟩ := mm_bd4s e8
  obtain ⟨w, a1, g1, o1, eg9, e9⟩ := mm_bd4s e9
  have q := RG d dc p D dc1 p1 f1 D1 w a1 g1 o1 d0 d6 hb eg8 eg9
  obtain ⟨r6, n6, e9⟩ := mm_bd1s e9
  by_cases hf : 0 ≤ f1.toInt
  · have q8 := pd_f hf e8
    have q9 : f9 = g1 := by
      rw [show (700 : Nat) = 699 + 1 from rfl, uf_X9_product_10, if_pos (Int32.le_iff_toInt_le.mpr (by rw [q.1]; omega))] at e9
      apply mm_sub4 e9
      rfl
    exact ⟨by rw [q8, q9]; exact q.1, Or.inl (by rw [q8]; exact hf)⟩
  · have qb := pq_b hb q hf
    have q' := q
    obtain ⟨z1, z2 | ⟨z2, z3, z4, z5, z6, -⟩⟩ := q'
    · exact absurd z2 hf
    · rw [z1, z2, z3, z4] at e9
      rw [z3] at n6
      rw [z2] at e8 q
      have h6 := HB p1 r6 (by omega) n6
      exact pq_t b1 q m1_f (pd_7 HB RG d0 d6 700 700 (0 : Int32) dc1 p1 D1 w r6 dc' p' f' D' v a9 f9 o9 qb (by omega) (by omega) h6 e8 e9)
end
section
/-! The law: sums, comparisons, both, either -/
theorem su_f {go : Int32 → Int32 → Int32 → Int32 → Int32 → List Int32 → List Int32 → Option (Int32 × Int32 × Int32 × List Int32)} {d n : Int32} {tape8 : List Int32} {m : Nat} {i dc p f dc' p' f' : Int32} {D D' : List Int32} (hf : 0 ≤ f.toInt) (e : fX2_readSum_7 700 go m d i n dc p f tape8 D = some (dc', p', f', D')) : f' = f := by
  cases m with
  | zero => exact absurd e (by intro h; cases h)
  | succ m =>
    rw [uf_X2_readSum_7] at e
    by_cases c : (120 : Int32) ≤ i
    · rw [if_pos c] at e
      apply mm_sub4 e
      rfl
    · rw [if_neg c] at e
      obtain ⟨r1, m1, e⟩ := mm_bd1s e
      have h1 := me_e m1
      rw [if_pos hf] at h1
      rw [if_pos h1] at e
      obtain ⟨r2, m2, e⟩ := mm_bd1s e
      have h2 := me_e m2
      rw [if_pos hf] at h2
      rw [if_pos h2] at e
      apply mm_sub4 e
      rfl
theorem su_g {go : Int32 → Int32 → Int32 → Int32 → Int32 → List Int32 → List Int32 → List Int32 → Option (Int32 × Int32 × Int32 × Int32)} {base at_ n f d v v' a9 f9 o9 : Int32} {tape text names : List Int32} {m : Nat} (hf : 0 ≤ f.toInt) (e : fX9_sums_5 700 go m v base at_ n f d tape text names = some (v', a9, f9, o9)) : f9 = f := by
  have n0 : (0 : Int32).toInt = 0 := by decide
  cases m with
  | zero => exact absurd e (by intro h; cases h)
  | succ m =>
    rw [uf_X9_sums_5, if_pos (Int32.le_iff_toInt_le.mpr (by omega))] at e
    apply mm_sub4 e
    rfl
theorem su_7 {go8 : Int32 → Int32 → Int32 → Int32 → Int32 → List Int32 → List Int32 → Option (Int32 × Int32 × Int32 × List Int32)} {go9 : Int32 → Int32 → Int32 → Int32 → Int32 → List Int32 → List Int32 → List Int32 → Option (Int32 × Int32 × Int32 × Int32)} {tape8 : List Int32} {base n d : Int32} {tape text names : List Int32} (HB : hb_w (fun k => tape8.getD k 0) base n tape text) (RG : rg_w tape8 base n tape text names (fX2_readProduct 700 go8) (fX9_product 700 go9)) (d0 : 0 ≤ d.toInt) (d6 : d.toInt ≤ 6) : ∀ (m m' : Nat) (i dc p : Int32) (D : List Int32) (v dc' p' f' : Int32) (D' : List Int32) (v' a9 f9 o9 : Int32), pb_w n dc p D → 0 ≤ i.toInt → i.toInt ≤ p.toInt → fX2_readSum_7 700 go8 m d i n dc p (-1) tape8 D = some (dc', p', f', D') → fX9_sums_5 700 go9 m' v base p n (-1) d tape text names = some (v', a9, f9, o9) → pq_w names (fun S => v :: S) n d dc p D dc' p' f' D' v' a9 f9 o9 := by
  have n1 : (1 : Int32).toInt = 1 := by decide
  have n120 : (120 : Int32).toInt = 120 := by decide
  intro m
  induction m with
  | zero =>
    intro m' i dc p D v dc' p' f' D' v' a9 f9 o9 hb i0 i1 e8
    exact absurd e8 (by intro h; cases h)
  | succ m ih =>
    intro m' i dc p D v dc' p' f' D' v' a9 f9 o9 hb i0 i1 e8 e9
    cases m' with
    | zero => exact absurd e9 (by intro h; cases h)
    | succ m' =>
      obtain ⟨b1, b2, b3, b4, b5⟩ := id hb
      rw [uf_X2_readSum_7] at e8
      rw [uf_X9_sums_5, if_neg (by decide)] at e9
      obtain ⟨x7, n7, e9⟩ := mm_bd1s e9
      have hx := HB p x7 (by omega) n7
      have K : ∀ c : Int32, (c = 43 ∨ c = 45) → nb_8 (fun k => tape8.getD k 0) n p = c → fX2_readSum_31 700 go8 (fX2_readSum_7 700 go8 m) d i n dc p (-1) tape8 D = some (dc', p', f', D') → fX9_sums_30 700 go9 (fX9_sums_5 700 go9 m') v base p n (-1) d tape text names = some (v', a9, f9, o9) → pq_w names (fun S => v :: S) n d dc p D dc' p' f' D' v' a9 f9 o9 := by
        intro c hc hby e8 e9
        have hc1 : ¬ c = -1 := by rcases hc with h | h <;> rw [h] <;> decide
        have hc0 : ¬ c = 0 := by rcases hc with h | h <;> rw [h] <;> decide
        have hcb : bi_w c := by
          unfold bi_w
          rcases hc with h | h
          · exact Or.inr (Or.inr (Or.inr (Or.inr (Or.inr (Or.inl h)))))
          · exact Or.inr (Or.inr (Or.inr (Or.inr (Or.inr (Or.inr (Or.inl h))))))
        have hlt := nb_l hc1 hby
        have hb9 := (nb_c hc0 hc1).mpr hby
        rw [uf_X2_readSum_31] at e8
        obtain ⟨r16, n16, e8⟩ := mm_bd1s e8
        have h16 := nx_e n16
        rw [hby] at h16
        subst h16
        rw [nm_eq] at e8
        rw [uf_X9_sums_30] at e9
        obtain ⟨x13, n13, e9⟩ := mm_bd1s e9
        have h13 := HB p x13 (by omega) n13
        rw [hb9] at h13
        have e9a : fX9_sums_44 700 go9 (fX9_sums_5 700 go9 m') v (if r16 = 43 then (1 : Int32) else (0 : Int32)) base p n (-1) d tape text names = some (v', a9, f9, o9) := by
          rw [h13] at e9
          by_cases h : r16 = 43
          · rw [if_pos h] at e9 ⊢
            exact e9
          · rw [if_neg h] at e9 ⊢
            exact e9
        rw [uf_X9_sums_44, nm_eq] at e9a
        generalize hy : p + (1 : Int32) = p1 at e8 e9a
        have ey := i_addE hy (by omega) (by omega)
        obtain ⟨dc1, p2, f1, D1, eg8, e8⟩ := mm_bd4s e8
        obtain ⟨dc2, D2, en, e8⟩ := mm_bd2s e8
        rw [nm_eq] at e8
        obtain ⟨w, a1, g1, o1, eg9, e9b⟩ := mm_bd4s e9a
        have q := RG d dc p1 D dc1 p2 f1 D1 w a1 g1 o1 d0 d6 (pb_n hb (by omega) hlt) eg8 eg9
        have e9' : fX9_sums_5 700 go9 m' (jn_w r16 v w) base a1 n g1 o1 tape text names = some (v', a9, f9, o9) := by
          rcases hc with h | h
          · rw [if_pos h, if_neg (by decide), uf_X9_sums_73] at e9b
            rw [h]
            exact e9b
          · rw [if_neg (show ¬ r16 = 43 by rw [h]; decide), if_pos rfl, uf_X9_sums_73] at e9b
            rw [h]
            exact e9b
        by_cases hf : 0 ≤ f1.toInt
        · have q8 := su_f hf e8
          have q9 := su_g (by rw [q.1]; exact hf) e9'
          exact ⟨by rw [q8, q9]; exact q.1, Or.inl (by rw [q8]; exact hf)⟩
        · have st := pq_o (v := v) hb (by omega) q hf hcb en
          have qb := pq_b hb st hf
          obtain ⟨z1, z2 | ⟨z2, z3, z4, z5, z6, -⟩⟩ := q
          · exact absurd z2 hf
          · rw [z1, z2] at e9'
            rw [z2] at e8 st
            rw [z3, z4] at e9'
            generalize hj : i + (1 : Int32) = j at e8
            have ej := i_addE hj (by omega) (by omega)
            have IH := ih m' j dc2 p2 D2 (jn_w r16 v w) dc' p' f' D' v' a9 f9 o9 qb (by omega) (by omega) e8 e9'
            exact pq_t b1 st m1_f IH
      have T : ¬ x7 = 43 → (if x7 = 43 then fX9_sums_30 700 go9 (fX9_sums_5 700 go9 m') v base p n (-1) d tape text names else mm_bd1 (fX9_byteAt 700 base p n tape text) (fun (r_10 : Int32) => if r_10 = 45 then fX9_sums_30 700 go9 (fX9_sums_5 700 go9 m') v base p n (-1) d tape text names else some (v, p, (-1 : Int32), d))) = some (v', a9, f9, o9) → (if x7 = 45 then fX9_sums_30 700 go9 (fX9_sums_5 700 go9 m') v base p n (-1) d tape text names else some (v, p, (-1 : Int32), d)) = some (v', a9, f9, o9) := by
        intro h e
        rw [if_neg h] at e
        obtain ⟨x10, n10, e⟩ := mm_bd1s e
        have h10 := HB p x10 (by omega) n10
        rw [← hx] at h10
        rw [h10] at e
        exact e
      by_cases c0 : (120 : Int32) ≤ i
      · have d0' := i_le c0
        rw [if_pos c0] at e8
        have hx0 : x7 = 0 := by
          rw [hx]
          unfold nb_9
          rw [if_pos (Int32.le_iff_toInt_le.mpr (by omega))]
        have e9 := T (by rw [hx0]; decide) e9
        rw [if_neg (by rw [hx0]; decide)] at e9
        apply mm_sub4 e8
        apply mm_sub4 e9
        exact pq_s hb
      · rw [if_neg c0] at e8
        obtain ⟨r1, m1, e8⟩ := mm_bd1s e8
        have h1 := me_e m1
        rw [if_neg m1_f] at h1
        by_cases k1 : nb_8 (fun k => tape8.getD k 0) n p = 43
        · rw [decide_eq_true k1] at h1
          rw [if_neg (by rw [h1]; decide)] at e8
          have hx1 : x7 = 43 := by rw [hx]; exact (nb_c (by decide) (by decide)).mpr k1
          rw [if_pos hx1] at e9
          exact K 43 (Or.inl rfl) k1 e8 e9
        · rw [decide_eq_false k1] at h1
          have hx1 : ¬ x7 = 43 := fun h => k1 ((nb_c (by decide) (by decide)).mp (by rw [← hx]; exact h))
          rw [if_pos h1] at e8
          have e9 := T hx1 e9
          obtain ⟨r2, m2, e8⟩ := mm_bd1s e8
          have h2 := me_e m2
          rw [if_neg m1_f] at h2
          by_cases k2 : nb_8 (fun k => tape8.getD k 0) n p = 45
          · rw [decide_eq_true k2] at h2
            rw [if_neg (by rw [h2]; decide)] at e8
            have hx2 : x7 = 45 := by rw [hx]; exact (nb_c (by decide) (by decide)).mpr k2
            rw [if_pos hx2] at e9
            exact K 45 (Or.inr rfl) k2 e8 e9
          · rw [decide_eq_false k2] at h2
            have hx2 : ¬ x7 = 45 := fun h => k2 ((nb_c (by decide) (by decide)).mp (by rw [← hx]; exact h))
            rw [if_pos h2] at e8
            rw [if_neg hx2] at e9
            apply mm_sub4 e8
            apply mm_sub4 e9
            exact pq_s hb
theorem su_r {go8 : Int32 → Int32 → Int32 → Int32 → Int32 → List Int32 → List Int32 → Option (Int32 × Int32 × Int32 × List Int32)} {go9 : Int32 → Int32 → Int32 → Int32 → Int32 → List Int32 → List Int32 → List Int32 → Option (Int32 × Int32 × Int32 × Int32)} {tape8 : List Int32} {base n : Int32} {tape text names : List Int32} (HB : hb_w (fun k => tape8.getD k 0) base n tape text) (RG : rg_w tape8 base n tape text names (fX2_readProduct 700 go8) (fX9_product 700 go9)) : rg_w tape8 base n tape text names (fX2_readSum 700 go8) (fX9_sums 700 go9) := by
  intro d dc p D dc' p' f' D' v a9 f9 o9 d0 d6 hb e8 e9
  have n0 : (0 : Int32).toInt = 0 := by decide
  obtain ⟨b1, b2, b3, b4, b5⟩ := id hb
  unfold fX2_readSum at e8
  unfold fX9_sums at e9
  obtain ⟨dc1, p1, f1, D1, eg8, e8⟩ := mm_bd4s e8
  obtain ⟨w, a1, g1, o1, eg9, e9⟩ := mm_bd4s e9
  have q := RG d dc p D dc1 p1 f1 D1 w a1 g1 o1 d0 d6 hb eg8 eg9
  by_cases hf : 0 ≤ f1.toInt
  · have q8 := su_f hf e8
    have q9 := su_g (by rw [q.1]; exact hf) e9
    exact ⟨by rw [q8, q9]; exact q.1, Or.inl (by rw [q8]; exact hf)⟩
  · have qb := pq_b hb q hf
    have q' := q
    obtain ⟨z1, z2 | ⟨z2, z3, z4, z5, z6, -⟩⟩ := q'
    · exact absurd z2 hf
    · rw [z1, z2, z3, z4] at e9
      rw [z2] at e8 q
      exact pq_t b1 q m1_f (su_7 HB RG d0 d6 700 700 (0 : Int32) dc1 p1 D1 w dc' p' f' D' v a9 f9 o9 qb (by omega) (by omega) e8 e9)
theorem cm_r {go8 : Int32 → Int32 → Int32 → Int32 → Int32 → List Int32 → List Int32 → Option (Int32 × Int32 × Int32 × List Int32)} {go9 : Int32 → Int32 → Int32 → Int32 → Int32 → List Int32 → List Int32 → List Int32 → Option (Int32 × Int32 × Int32 × Int32)} {tape8 : List Int32} {base n : Int32} {tape text names : List Int32} (HB : hb_w (fun k => tape8.getD k 0) base n tape text) (RG : rg_w tape8 base n tape text names (fX2_readSum 700 go8) (fX9_sums 700 go9)) : rg_w tape8 base n tape text names (fX2_readCompared 700 go8) (fX9_compared 700 go9) := by
  intro d dc p D dc' p' f' D' v a9 f9 o9 d0 d6 hb e8 e9
  have n0 : (0 : Int32).toInt = 0 := by decide
  have n1 : (1 : Int32).toInt = 1 := by decide
  obtain ⟨b1, b2, b3, b4, b5⟩ := id hb
  unfold fX2_readCompared at e8
  unfold fX9_compared at e9
  obtain ⟨dc1, p1, f1, D1, eg8, e8⟩ := mm_bd4s e8
  obtain ⟨w, a1, g1, o1, eg9, e9⟩ := mm_bd4s e9
  have q := RG d dc p D dc1 p1 f1 D1 w a1 g1 o1 d0 d6 hb eg8 eg9
  obtain ⟨x6, n6, e9⟩ := mm_bd1s e9
  by_cases hf : 0 ≤ f1.toInt
  · rw [if_pos (Int32.le_iff_toInt_le.mpr (by rw [q.1]; omega))] at e9
    obtain ⟨r1, m1, e8⟩ := mm_bd1s e8
    have h1 := me_e m1
    rw [if_pos hf] at h1
    rw [if_pos h1] at e8
    obtain ⟨r2, m2, e8⟩ := mm_bd1s e8
    have h2 := me_e m2
    rw [if_pos hf] at h2
    rw [if_pos h2] at e8
    obtain ⟨r3, m3, e8⟩ := mm_bd1s e8
    have h3 := me_e m3
    rw [if_pos hf] at h3
    rw [if_pos h3] at e8
    apply mm_sub4 e8
    apply mm_sub4 e9
    exact ⟨q.1, Or.inl hf⟩
  · have qb := pq_b hb q hf
    have q' := q
    obtain ⟨z1, z2 | ⟨z2, z3, z4, z5, z6, -⟩⟩ := q'
    · exact absurd z2 hf
    · rw [z1, z2, z3, z4, if_neg (by decide)] at e9
      rw [z3] at n6
      rw [z2] at e8 q
      have hx := HB p1 x6 (by omega) n6
      have K : ∀ c : Int32, (c = 60 ∨ c = 61 ∨ c = 62) → nb_8 (fun k => tape8.getD k 0) n p1 = c → fX2_readCompared_32 700 go8 d n dc1 p1 (-1) tape8 D1 = some (dc', p', f', D') → fX9_compared_37 700 go9 w c base p1 n (-1) d tape text names = some (v, a9, f9, o9) → pq_w names (fun S => w :: S) n d dc1 p1 D1 dc' p' f' D' v a9 f9 o9 := by
        intro c hc hby e8 e9
        have hc1 : ¬ c = -1 := by rcases hc with h | h | h <;> rw [h] <;> decide
        have hcb : bi_w c := by
          unfold bi_w
          rcases hc with h | h | h
          · exact Or.inr (Or.inr (Or.inl h))
          · exact Or.inr (Or.inr (Or.inr (Or.inl h)))
          · exact Or.inr (Or.inr (Or.inr (Or.inr (Or.inl h))))
        have hlt := nb_l hc1 hby
        obtain ⟨c1, c2, c3, c4, c5⟩ := id qb
        rw [uf_X2_readCompared_32] at e8
        obtain ⟨r16, n16, e8⟩ := mm_bd1s e8
        have h16 := nx_e n16
        rw [hby] at h16
        subst h16
        rw [nm_eq] at e8
        rw [uf_X9_compared_37, nm_eq] at e9
        generalize hy : p1 + (1 : Int32) = p2 at e8 e9
        have ey := i_addE hy (by omega) (by omega)
        obtain ⟨dc3, p3, f3, D3, eg8', e8⟩ := mm_bd4s e8
        obtain ⟨dc4, D4, en, e8⟩ := mm_bd2s e8
        obtain ⟨u, a3, g3, o3, eg9', e9⟩ := mm_bd4s e9
        have q3 := RG d dc1 p2 D1 dc3 p3 f3 D3 u a3 g3 o3 d0 d6 (pb_n qb (by omega) hlt) eg8' eg9'
        have e9' : some (jn_w r16 w u, a3, g3, o3) = some (v, a9, f9, o9) := by
          rcases hc with h | h | h
          · rw [if_pos h] at e9
            rw [h]
            by_cases k : u ≤ w
            · rw [if_pos k] at e9
              have : jn_w 60 w u = 0 := by
                unfold jn_w
                rw [if_neg (by decide), if_neg (by decide), if_pos rfl, if_pos k]
              rw [this]
              exact e9
            · rw [if_neg k] at e9
              have : jn_w 60 w u = 1 := by
                unfold jn_w
                rw [if_neg (by decide), if_neg (by decide), if_pos rfl, if_neg k]
              rw [this]
              exact e9
          · rw [if_neg (show ¬ r16 = 60 by rw [h]; decide), if_pos h] at e9
            rw [h]
            by_cases k : w = u
            · rw [if_pos k] at e9
              have : jn_w 61 w u = 1 := by
                unfold jn_w
                rw [if_neg (by decide), if_neg (by decide), if_neg (by decide), if_pos rfl, if_pos k]
              rw [this]
              exact e9
            · rw [if_neg k] at e9
              have : jn_w 61 w u = 0 := by
                unfold jn_w
                rw [if_neg (by decide), if_neg (by decide), if_neg (by decide), if_pos rfl, if_neg k]
              rw [this]
              exact e9
          · rw [if_neg (show ¬ r16 = 60 by rw [h]; decide), if_neg (show ¬ r16 = 61 by rw [h]; decide)] at e9
            rw [h]
            by_cases k : w ≤ u
            · rw [if_pos k] at e9
              have : jn_w 62 w u = 0 := by
                unfold jn_w
                rw [if_neg (by decide), if_neg (by decide), if_neg (by decide), if_neg (by decide), if_pos rfl, if_pos k]
              rw [this]
              exact e9
            · rw [if_neg k] at e9
              have : jn_w 62 w u = 1 := by
                unfold jn_w
                rw [if_neg (by decide), if_neg (by decide), if_neg (by decide), if_neg (by decide), if_pos rfl, if_neg k]
              rw [this]
              exact e9
        apply mm_sub4 e8
        apply mm_sub4 e9'
        by_cases hf3 : 0 ≤ f3.toInt
        · exact ⟨q3.1, Or.inl hf3⟩
        · exact pq_o (v := w) qb (by omega) q3 hf3 hcb en
      refine pq_t b1 q m1_f ?_
      obtain ⟨r1, m1, e8⟩ := mm_bd1s e8
      have h1 := me_e m1
      rw [if_neg m1_f] at h1
      by_cases k1 : nb_8 (fun k => tape8.getD k 0) n p1 = 60
      · rw [decide_eq_true k1] at h1
        rw [if_neg (by rw [h1]; decide)] at e8
        have hx1 : x6 = 60 := by rw [hx]; exact (nb_c (by decide) (by decide)).mpr k1
        rw [if_pos hx1, hx1] at e9
        exact K 60 (Or.inl rfl) k1 e8 e9
      · rw [decide_eq_false k1] at h1
        have hx1 : ¬ x6 = 60 := fun h => k1 ((nb_c (by decide) (by decide)).mp (by rw [← hx]; exact h))
        rw [if_pos h1] at e8
        rw [if_neg hx1] at e9
        obtain ⟨r2, m2, e8⟩ := mm_bd1s e8
        have h2 := me_e m2
        rw [if_neg m1_f] at h2
        by_cases k2 : nb_8 (fun k => tape8.getD k 0) n p1 = 61
        · rw [decide_eq_true k2] at h2
          rw [if_neg (by rw [h2]; decide)] at e8
          have hx2 : x6 = 61 := by rw [hx]; exact (nb_c (by decide) (by decide)).mpr k2
          rw [if_pos hx2, hx2] at e9
          exact K 61 (Or.inr (Or.inl rfl)) k2 e8 e9
        · rw [decide_eq_false k2] at h2
          have hx2 : ¬ x6 = 61 := fun h => k2 ((nb_c (by decide) (by decide)).mp (by rw [← hx]; exact h))
          rw [if_pos h2] at e8
          rw [if_neg hx2] at e9
          obtain ⟨r3, m3, e8⟩ := mm_bd1s e8
          have h3 := me_e m3
          rw [if_neg m1_f] at h3
          by_cases k3 : nb_8 (fun k => tape8.getD k 0) n p1 = 62
          · rw [decide_eq_true k3] at h3
            rw [if_neg (by rw [h3]; decide)] at e8
            have hx3 : x6 = 62 := by rw [hx]; exact (nb_c (by decide) (by decide)).mpr k3
            rw [if_pos hx3, hx3] at e9
            exact K 62 (Or.inr (Or.inr rfl)) k3 e8 e9
          · rw [decide_eq_false k3] at h3
            have hx3 : ¬ x6 = 62 := fun h => k3 ((nb_c (by decide) (by decide)).mp (by rw [← hx]; exact h))
            rw [if_pos h3] at e8
            rw [if_neg hx3] at e9
            apply mm_sub4 e8
            apply mm_sub4 e9
            exact pq_s qb
end
section
/-! The law: both, either -/
theorem bo_f {go : Int32 → Int32 → Int32 → Int32 → Int32 → List Int32 → List Int32 → Option (Int32 × Int32 × Int32 × List Int32)} {d n : Int32} {tape8 : List Int32} {m : Nat} {i dc p f dc' p' f' : Int32} {D D' : List Int32} (hf : 0 ≤ f.toInt) (e : fX2_readBoth_7 700 go m d i n dc p f tape8 D = some (dc', p', f', D')) : f' = f := by
  cases m with
  | zero => exact absurd e (by intro h; cases h)
  | succ m =>
    rw [uf_X2_readBoth_7] at e
    by_cases c : (120 : Int32) ≤ i
    · rw [if_pos c] at e
      apply mm_sub4 e
      rfl
    · rw [if_neg c] at e
      obtain ⟨r1, m1, e⟩ := mm_bd1s e
      have h1 := me_e m1
      rw [if_pos hf] at h1
      rw [if_pos h1] at e
      apply mm_sub4 e
      rfl
theorem bo_g {go : Int32 → Int32 → Int32 → Int32 → Int32 → List Int32 → List Int32 → List Int32 → Option (Int32 × Int32 × Int32 × Int32)} {base at_ n f d v v' a9 f9 o9 : Int32} {tape text names : List Int32} {m : Nat} (hf : 0 ≤ f.toInt) (e : fX9_both_5 700 go m v base at_ n f d tape text names = some (v', a9, f9, o9)) : f9 = f := by
  have n0 : (0 : Int32).toInt = 0 := by decide
  cases m with
  | zero => exact absurd e (by intro h; cases h)
  | succ m =>
    rw [uf_X9_both_5] at e
    obtain ⟨r, a, et, e⟩ := mm_bd2s e
    unfold fX9_takes at et
    rw [if_pos (Int32.le_iff_toInt_le.mpr (by omega))] at et
    have et := sm_i et
    injection et with h1 h2
    rw [if_pos h1.symm] at e
    apply mm_sub4 e
    rfl
theorem bo_7 {go8 : Int32 → Int32 → Int32 → Int32 → Int32 → List Int32 → List Int32 → Option (Int32 × Int32 × Int32 × List Int32)} {go9 : Int32 → Int32 → Int32 → Int32 → Int32 → List Int32 → List Int32 → List Int32 → Option (Int32 × Int32 × Int32 × Int32)} {tape8 : List Int32} {base n d : Int32} {tape text names : List Int32} (HB : hb_w (fun k => tape8.getD k 0) base n tape text) (RG : rg_w tape8 base n tape text names (fX2_readCompared 700 go8) (fX9_compared 700 go9)) (d0 : 0 ≤ d.toInt) (d6 : d.toInt ≤ 6) : ∀ (m m' : Nat) (i dc p : Int32) (D : List Int32) (v dc' p' f' : Int32) (D' : List Int32) (v' a9 f9 o9 : Int32), pb_w n dc p D → 0 ≤ i.toInt → i.toInt ≤ p.toInt → fX2_readBoth_7 700 go8 m d i n dc p (-1) tape8 D = some (dc', p', f', D') → fX9_both_5 700 go9 m' v base p n (-1) d tape text names = some (v', a9, f9, o9) → pq_w names (fun S => v :: S) n d dc p D dc' p' f' D' v' a9 f9 o9 := by
  have n1 : (1 : Int32).toInt = 1 := by decide
  have n120 : (120 : Int32).toInt = 120 := by decide
  intro m
  induction m with
  | zero =>
    intro m' i dc p D v dc' p' f' D' v' a9 f9 o9 hb i0 i1 e8
    exact absurd e8 (by intro h; cases h)
  | succ m ih =>
    intro m' i dc p D v dc' p' f' D' v' a9 f9 o9 hb i0 i1 e8 e9
    cases m' with
    | zero => exact absurd e9 (by intro h; cases h)
    | succ m' =>
      obtain ⟨b1, b2, b3, b4, b5⟩ := id hb
      rw [uf_X2_readBoth_7] at e8
      rw [uf_X9_both_5] at e9
      obtain ⟨rt, at_, et, e9⟩ := mm_bd2s e9
      obtain ⟨t1, t2⟩ := tk_e HB (by omega) et
      rw [if_neg m1_f] at t1
      by_cases k1 : nb_8 (fun k => tape8.getD k 0) n p = 38
      · have hlt := nb_l (by decide) k1
        have k9 : nb_9 (fun k => tape8.getD k 0) n p = 38 := (nb_c (by decide) (by decide)).mpr k1
        rw [decide_eq_true k9] at t1
        rw [if_pos t1] at t2
        rw [if_neg (by rw [t1]; decide), t2] at e9
        rw [if_neg (fun h => absurd (i_le h) (by omega))] at e8
        obtain ⟨r1, m1, e8⟩ := mm_bd1s e8
        have h1 := me_e m1
        rw [if_neg m1_f, decide_eq_true k1] at h1
        rw [if_neg (by rw [h1]; decide), nm_eq] at e8
        generalize hy : p + (1 : Int32) = p1 at e8 e9
        have ey := i_addE hy (by omega) (by omega)
        obtain ⟨dc1, p2, f1, D1, eg8, e8⟩ := mm_bd4s e8
        obtain ⟨dc2, D2, en, e8⟩ := mm_bd2s e8
        rw [nm_eq] at e8
        obtain ⟨w, a1, g1, o1, eg9, e9⟩ := mm_bd4s e9
        have q := RG d dc p1 D dc1 p2 f1 D1 w a1 g1 o1 d0 d6 (pb_n hb (by omega) hlt) eg8 eg9
        have e9' : fX9_both_5 700 go9 m' (jn_w 38 v w) base a1 n g1 o1 tape text names = some (v', a9, f9, o9) := by
          by_cases hv : v = 0
          · rw [if_pos hv, uf_X9_both_31, uf_X9_both_32] at e9
            have : jn_w 38 v w = 0 := by
              unfold jn_w
              rw [if_neg (by decide), if_pos rfl, if_pos hv]
            rw [this]
            exact e9
          · rw [if_neg hv] at e9
            by_cases hw : w = 0
            · rw [if_pos hw, uf_X9_both_31, uf_X9_both_32] at e9
              have : jn_w 38 v w = 0 := by
                unfold jn_w
                rw [if_neg (by decide), if_pos rfl, if_neg hv, if_pos hw]
              rw [this]
              exact e9
            · rw [if_neg hw, uf_X9_both_32] at e9
              have : jn_w 38 v w = 1 := by
                unfold jn_w
                rw [if_neg (by decide), if_pos rfl, if_neg hv, if_neg hw]
              rw [this]
              exact e9
        by_cases hf : 0 ≤ f1.toInt
        · have q8 := bo_f hf e8
          have q9 := bo_g (by rw [q.1]; exact hf) e9'
          exact ⟨by rw [q8, q9]; exact q.1, Or.inl (by rw [q8]; exact hf)⟩
        · have st := pq_o (v := v) hb (by omega) q hf (Or.inr (Or.inl rfl)) en
          have qb := pq_b hb st hf
          obtain ⟨z1, z2 | ⟨z2, z3, z4, z5, z6, -⟩⟩ := q
          · exact absurd z2 hf
          · rw [z1, z2] at e9'
            rw [z2] at e8 st
            rw [z3, z4] at e9'
            generalize hj : i + (1 : Int32) = j at e8
            have ej := i_addE hj (by omega) (by omega)
            have IH := ih m' j dc2 p2 D2 (jn_w 38 v w) dc' p' f' D' v' a9 f9 o9 qb (by omega) (by omega) e8 e9'
            exact pq_t b1 st m1_f IH
      · have k9 : ¬ nb_9 (fun k => tape8.getD k 0) n p = 38 := fun h => k1 ((nb_c (by decide) (by decide)).mp h)
        rw [decide_eq_false k9] at t1
        rw [if_neg (by rw [t1]; decide)] at t2
        rw [if_pos t1, t2] at e9
        apply mm_sub4 e9
        by_cases c0 : (120 : Int32) ≤ i
        · rw [if_pos c0] at e8
          apply mm_sub4 e8
          exact pq_s hb
        · rw [if_neg c0] at e8
          obtain ⟨r1, m1, e8⟩ := mm_bd1s e8
          have h1 := me_e m1
          rw [if_neg m1_f, decide_eq_false k1] at h1
          rw [if_pos h1] at e8
          apply mm_sub4 e8
          exact pq_s hb
theorem bo_r {go8 : Int32 → Int32 → Int32 → Int32 → Int32 → List Int32 → List Int32 → Option (Int32 × Int32 × Int32 × List Int32)} {go9 : Int32 → Int32 → Int32 → Int32 → Int32 → List Int32 → List Int32 → List Int32 → Option (Int32 × Int32 × Int32 × Int32)} {tape8 : List Int32} {base n : Int32} {tape text names : List Int32} (HB : hb_w (fun k => tape8.getD k 0) base n tape text) (RG : rg_w tape8 base n tape text names (fX2_readCompared 700 go8) (fX9_compared 700 go9)) : rg_w tape8 base n tape text names (fX2_readBoth 700 go8) (fX9_both 700 go9) := by
  intro d dc p D dc' p' f' D' v a9 f9 o9 d0 d6 hb e8 e9
  have n0 : (0 : Int32).toInt = 0 := by decide
  obtain ⟨b1, b2, b3, b4, b5⟩ := id hb
  unfold fX2_readBoth at e8
  unfold fX9_both at e9
  obtain ⟨dc1, p1, f1, D1, eg8, e8⟩ := mm_bd4s e8
  obtain ⟨w, a1, g1, o1, eg9, e9⟩ := mm_bd4s e9
  have q := RG d dc p D dc1 p1 f1 D1 w a1 g1 o1 d0 d6 hb eg8 eg9
  by_cases hf : 0 ≤ f1.toInt
  · have q8 := bo_f hf e8
    have q9 := bo_g (by rw [q.1]; exact hf) e9
    exact ⟨by rw [q8, q9]; exact q.1, Or.inl (by rw [q8]; exact hf)⟩
  · have qb := pq_b hb q hf
    have q' := q
    obtain ⟨z1, z2 | ⟨z2, z3, z4, z5, z6, -⟩⟩ := q'
    · exact absurd z2 hf
    · rw [z1, z2, z3, z4] at e9
      rw [z2] at e8 q
      exact pq_t b1 q m1_f (bo_7 HB RG d0 d6 700 700 (0 : Int32) dc1 p1 D1 w dc' p' f' D' v a9 f9 o9 qb (by omega) (by omega) e8 e9)
theorem ei_f {go : Int32 → Int32 → Int32 → Int32 → Int32 → List Int32 → List Int32 → Option (Int32 × Int32 × Int32 × List Int32)} {d n : Int32} {tape8 : List Int32} {m : Nat} {i dc p f dc' p' f' : Int32} {D D' : List Int32} (hf : 0 ≤ f.toInt) (e : fX2_readEither_7 700 go m d i n dc p f tape8 D = some (dc', p', f', D')) : f' = f := by
  cases m with
  | zero => exact absurd e (by intro h; cases h)
  | succ m =>
    rw [uf_X2_readEither_7] at e
    by_cases c : (120 : Int32) ≤ i
    · rw [if_pos c] at e
      apply mm_sub4 e
      rfl
    · rw [if_neg c] at e
      obtain ⟨r1, m1, e⟩ := mm_bd1s e
      have h1 := me_e m1
      rw [if_pos hf] at h1
      rw [if_pos h1] at e
      apply mm_sub4 e
      rfl
theorem ei_g {go : Int32 → Int32 → Int32 → Int32 → Int32 → List Int32 → List Int32 → List Int32 → Option (Int32 × Int32 × Int32 × Int32)} {base at_ n f d v v' a9 f9 o9 : Int32} {tape text names : List Int32} {m : Nat} (hf : 0 ≤ f.toInt) (e : fX9_either_5 700 go m v base at_ n f d tape text names = some (v', a9, f9, o9)) : f9 = f := by
  have n0 : (0 : Int32).toInt = 0 := by decide
  cases m with
  | zero => exact absurd e (by intro h; cases h)
  | succ m =>
    rw [uf_X9_either_5] at e
    obtain ⟨r, a, et, e⟩ := mm_bd2s e
    unfold fX9_takes at et
    rw [if_pos (Int32.le_iff_toInt_le.mpr (by omega))] at et
    have et := sm_i et
    injection et with h1 h2
    rw [if_pos h1.symm] at e
    apply mm_sub4 e
    rfl
theorem ei_7 {go8 : Int32 → Int32 → Int32 → Int32 → Int32 → List Int32 → List Int32 → Option (Int32 × Int32 × Int32 × List Int32)} {go9 : Int32 → Int32 → Int32 → Int32 → Int32 → List Int32 → List Int32 → List Int32 → Option (Int32 × Int32 × Int32 × Int32)} {tape8 : List Int32} {base n d : Int32} {tape text names : List Int32} (HB : hb_w (fun k => tape8.getD k 0) base n tape text) (RG : rg_w tape8 base n tape text names (fX2_readBoth 700 go8) (fX9_both 700 go9)) (d0 : 0 ≤ d.toInt) (d6 : d.toInt ≤ 6) : ∀ (m m' : Nat) (i dc p : Int32) (D : List Int32) (v dc' p' f' : Int32) (D' : List Int32) (v' a9 f9 o9 : Int32), pb_w n dc p D → 0 ≤ i.toInt → i.toInt ≤ p.toInt → fX2_readEither_7 700 go8 m d i n dc p (-1) tape8 D = some (dc', p', f', D') → fX9_either_5 700 go9 m' v base p n (-1) d tape text names = some (v', a9, f9, o9) → pq_w names (fun S => v :: S) n d dc p D dc' p' f' D' v' a9 f9 o9 := by
  have n1 : (1 : Int32).toInt = 1 := by decide
  have n120 : (120 : Int32).toInt = 120 := by decide
  intro m
  induction m with
  | zero =>
    intro m' i dc p D v dc' p' f' D' v' a9 f9 o9 hb i0 i1 e8
    exact absurd e8 (by intro h; cases h)
  | succ m ih =>
    intro m' i dc p D v dc' p' f' D' v' a9 f9 o9 hb i0 i1 e8 e9
    cases m' with
    | zero => exact absurd e9 (by intro h; cases h)
    | succ m' =>
      obtain ⟨b1, b2, b3, b4, b5⟩ := id hb
      rw [uf_X2_readEither_7] at e8
      rw [uf_X9_either_5] at e9
      obtain ⟨rt, at_, et, e9⟩ := mm_bd2s e9
      obtain ⟨t1, t2⟩ := tk_e HB (by omega) et
      rw [if_neg m1_f] at t1
      by_cases k1 : nb_8 (fun k => tape8.getD k 0) n p = 124
      · have hlt := nb_l (by decide) k1
        have k9 : nb_9 (fun k => tape8.getD k 0) n p = 124 := (nb_c (by decide) (by decide)).mpr k1
        rw [decide_eq_true k9] at t1
        rw [if_pos t1] at t2
        rw [if_neg (by rw [t1]; decide), t2] at e9
        rw [if_neg (fun h => absurd (i_le h) (by omega))] at e8
        obtain ⟨r1, m1, e8⟩ := mm_bd1s e8
        have h1 := me_e m1
        rw [if_neg m1_f, decide_eq_true k1] at h1
        rw [if_neg (by rw [h1]; decide), nm_eq] at e8
        generalize hy : p + (1 : Int32) = p1 at e8 e9
        have ey := i_addE hy (by omega) (by omega)
        obtain ⟨dc1, p2, f1, D1, eg8, e8⟩ := mm_bd4s e8
        obtain ⟨dc2, D2, en, e8⟩ := mm_bd2s e8
        rw [nm_eq] at e8
        obtain ⟨w, a1, g1, o1, eg9, e9⟩ := mm_bd4s e9
        have q := RG d dc p1 D dc1 p2 f1 D1 w a1 g1 o1 d0 d6 (pb_n hb (by omega) hlt) eg8 eg9
        have e9' : fX9_either_5 700 go9 m' (jn_w 124 v w) base a1 n g1 o1 tape text names = some (v', a9, f9, o9) := by
          by_cases hv : v = 0
          · rw [if_pos hv] at e9
            by_cases hw : w = 0
            · rw [if_pos hw, uf_X9_either_32] at e9
              have : jn_w 124 v w = 0 := by
                unfold jn_w
                rw [if_pos rfl, if_pos hv, if_pos hw]
              rw [this]
              exact e9
            · rw [if_neg hw, uf_X9_either_27, uf_X9_either_32] at e9
              have : jn_w 124 v w = 1 := by
                unfold jn_w
                rw [if_pos rfl, if_pos hv, if_neg hw]
              rw [this]
              exact e9
          · rw [if_neg hv, uf_X9_either_27, uf_X9_either_32] at e9
            have : jn_w 124 v w = 1 := by
              unfold jn_w
              rw [if_pos rfl, if_neg hv]
            rw [this]
            exact e9
        by_cases hf : 0 ≤ f1.toInt
        · have q8 := ei_f hf e8
          have q9 := ei_g (by rw [q.1]; exact hf) e9'
          exact ⟨by rw [q8, q9]; exact q.1, Or.inl (by rw [q8]; exact hf)⟩
        · have st := pq_o (v := v) hb (by omega) q hf (Or.inl rfl) en
          have qb := pq_b hb st hf
          obtain ⟨z1, z2 | ⟨z2, z3, z4, z5, z6, -⟩⟩ := q
          · exact absurd z2 hf
          · rw [z1, z2] at e9'
            rw [z2] at e8 st
            rw [z3, z4] at e9'
            generalize hj : i + (1 : Int32) = j at e8
            have ej := i_addE hj (by omega) (by omega)
            have IH := ih m' j dc2 p2 D2 (jn_w 124 v w) dc' p' f' D' v' a9 f9 o9 qb (by omega) (by omega) e8 e9'
            exact pq_t b1 st m1_f IH
      · have k9 : ¬ nb_9 (fun k => tape8.getD k 0) n p = 124 := fun h => k1 ((nb_c (by decide) (by decide)).mp h)
        rw [decide_eq_false k9] at t1
        rw [if_neg (by rw [t1]; decide)] at t2
        rw [if_pos t1, t2] at e9
        apply mm_sub4 e9
        by_cases c0 : (120 : Int32) ≤ i
        · rw [if_pos c0] at e8
          apply mm_sub4 e8
          exact pq_s hb
        · rw [if_neg c0] at e8
          obtain ⟨r1, m1, e8⟩ := mm_bd1s e8
          have h1 := me_e m1
          rw [if_neg m1_f, decide_eq_false k1] at h1
          rw [if_pos h1] at e8
          apply mm_sub4 e8
          exact pq_s hb
theorem ei_r {go8 : Int32 → Int32 → Int32 → Int32 → Int32 → List Int32 → List Int32 → Option (Int32 × Int32 × Int32 × List Int32)} {go9 : Int32 → Int32 → Int32 → Int32 → Int32 → List Int32 → List Int32 → List Int32 → Option (Int32 × Int32 × Int32 × Int32)} {tape8 : List Int32} {base n : Int32} {tape text names : List Int32} (HB : hb_w (fun k => tape8.getD k 0) base n tape text) (RG : rg_w tape8 base n tape text names (fX2_readBoth 700 go8) (fX9_both 700 go9)) : rg_w tape8 base n tape text names (fX2_readEither 700 go8) (fX9_either 700 go9) := by
  intro d dc p D dc' p' f' D' v a9 f9 o9 d0 d6 hb e8 e9
  have n0 : (0 : Int32).toInt = 0 := by decide
  obtain ⟨b1, b2, b3, b4, b5⟩ := id hb
  unfold fX2_readEither at e8
  unfold fX9_either at e9
  obtain ⟨dc1, p1, f1, D1, eg8, e8⟩ := mm_bd4s e8
  obtain ⟨w, a1, g1, o1, eg9, e9⟩ := mm_bd4s e9
  have q := RG d dc p D dc1 p1 f1 D1 w a1 g1 o1 d0 d6 hb eg8 eg9
  by_cases hf : 0 ≤ f1.toInt
  · have q8 := ei_f hf e8
    have q9 := ei_g (by rw [q.1]; exact hf) e9
    exact ⟨by rw [q8, q9]; exact q.1, Or.inl (by rw [q8]; exact hf)⟩
  · have qb := pq_b hb q hf
    have q' := q
    obtain ⟨z1, z2 | ⟨z2, z3, z4, z5, z6, -⟩⟩ := q'
    · exact absurd z2 hf
    · rw [z1, z2, z3, z4] at e9
      rw [z2] at e8 q
      exact pq_t b1 q m1_f (ei_7 HB RG d0 d6 700 700 (0 : Int32) dc1 p1 D1 w dc' p' f' D' v a9 f9 o9 qb (by omega) (by omega) e8 e9)
end
section
/-! The law: numbers, single ones -/
def dg_w (r : Int32) : Prop := 48 ≤ r.toInt ∧ r.toInt ≤ 57
theorem di_e (x : Int32) : fX2_isDigit 700 x = some (decide (48 ≤ x.toInt ∧ x.toInt ≤ 57)) := by
  have n48 : (48 : Int32).toInt = 48 := by decide
  have n57 : (57 : Int32).toInt = 57 := by decide
  unfold fX2_isDigit
  by_cases c : x < (48 : Int32)
  · have d := i_lt c
    rw [if_pos c, decide_eq_false (by omega)]
  · have d := i_nlt c
    rw [if_neg c]
    by_cases c2 : (57 : Int32) < x
    · have d2 := i_lt c2
      rw [if_pos c2, decide_eq_false (by omega)]
    · have d2 := i_nlt c2
      rw [if_neg c2, decide_eq_true (by omega)]
theorem nb_d9 {b : Nat → Int32} {n p : Int32} : (48 ≤ (nb_9 b n p).toInt ∧ (nb_9 b n p).toInt ≤ 57) ↔ (48 ≤ (nb_8 b n p).toInt ∧ (nb_8 b n p).toInt ≤ 57) := by
  unfold nb_8 nb_9
  by_cases g : n ≤ p
  · rw [if_pos g, if_pos g]
    have n0 : (0 : Int32).toInt = 0 := by decide
    have n1 : (-1 : Int32).toInt = -1 := by decide
    omega
  · rw [if_neg g, if_neg g]
theorem nb_e {b : Nat → Int32} {n p : Int32} (h : p.toInt < n.toInt) : nb_9 b n p = nb_8 b n p := by
  unfold nb_8 nb_9
  rw [if_neg (fun k => absurd (i_le k) (by omega)), if_neg (fun k => absurd (i_le k) (by omega))]
theorem nb_p {b : Nat → Int32} {n p : Int32} (h : 48 ≤ (nb_8 b n p).toInt) : p.toInt < n.toInt := by
  unfold nb_8 at h
  by_cases g : n ≤ p
  · rw [if_pos g] at h
    exact absurd h (by decide)
  · exact i_nle g
def vd_w (x v : Int32) : Prop := (x.toInt = 0 ∧ v.toInt = 0) ∨ (x.toInt = 1 ∧ 0 ≤ v.toInt ∧ v.toInt < 10) ∨ (x.toInt = 2 ∧ 0 ≤ v.toInt ∧ v.toInt < 100) ∨ (x.toInt = 3 ∧ 0 ≤ v.toInt ∧ v.toInt < 1000) ∨ (x.toInt = 4 ∧ 0 ≤ v.toInt ∧ v.toInt < 10000)
theorem nu_4 {go : Int32 → Int32 → Int32 → Int32 → Int32 → List Int32 → List Int32 → List Int32 → Option (Int32 × Int32 × Int32 × Int32)} {tape8 : List Int32} {base n d : Int32} {tape text names : List Int32} (HB : hb_w (fun k => tape8.getD k 0) base n tape text) : ∀ (m m' : Nat) (x1 x2 dc p : Int32) (D : List Int32) (dc' p' : Int32) (D' : List Int32) (v a9 f9 o9 : Int32), pb_w n dc p D → vd_w x2 x1 → (x2.toInt = 0 → 48 ≤ (nb_8 (fun k => tape8.getD k 0) n p).toInt ∧ (nb_8 (fun k => tape8.getD k 0) n p).toInt ≤ 57) → fX2_readNumber_4 700 m x1 x2 n dc p tape8 D = some (dc', p', D') → fX9_one_176 700 go m' x1 x2 base p n (-1) d tape text names = some (v, a9, f9, o9) → f9 = -1 ∧ a9 = p' ∧ o9 = d ∧ p.toInt ≤ p'.toInt ∧ p'.toInt ≤ n.toInt ∧ 1 ≤ p'.toInt - p.toInt + x2.toInt ∧ dc'.toInt = dc.toInt + 1 ∧ cs_w dc.toInt.toNat D D' [(1000 : Int32) + v] ∧ 0 ≤ v.toInt ∧ v.toInt < 10000 := by
  have n1 : (1 : Int32).toInt = 1 := by decide
  have n4 : (4 : Int32).toInt = 4 := by decide
  have n48 : (48 : Int32).toInt = 48 := by decide
  have n57 : (57 : Int32).toInt = 57 := by decide
  have n0 : (0 : Int32).toInt = 0 := by decide
  intro m
  induction m with
  | zero =>
    intro m' x1 x2 dc p D dc' p' D' v a9 f9 o9 hb hv hd e8
    exact absurd e8 (by intro h; cases h)
  | succ m ih =>
    intro m' x1 x2 dc p D dc' p' D' v a9 f9 o9 hb hv hd e8 e9
    cases m' with
    | zero => exact absurd e9 (by intro h; cases h)
    | succ m' =>
      obtain ⟨b1, b2, b3, b4, b5⟩ := id hb
      have hv' := hv
      unfold vd_w at hv'
      rw [uf_X2_readNumber_4] at e8
      rw [uf_X9_one_176] at e9
      have E : ¬ x2.toInt = 0 → fX2_readNumber_48 700 x1 n dc p tape8 D = some (dc', p', D') → fX9_one_229 700 go x1 x2 base p n (-1) d tape text names = some (v, a9, f9, o9) → f9 = -1 ∧ a9 = p' ∧ o9 = d ∧ p.toInt ≤ p'.toInt ∧ p'.toInt ≤ n.toInt ∧ 1 ≤ p'.toInt - p.toInt + x2.toInt ∧ dc'.toInt = dc.toInt + 1 ∧ cs_w dc.toInt.toNat D D' [(1000 : Int32) + v] ∧ 0 ≤ v.toInt ∧ v.toInt < 10000 := by
        intro hx e8 e9
        rw [uf_X2_readNumber_48] at e8
        obtain ⟨w1, w2, en, e8⟩ := mm_bd2s e8
        obtain ⟨y1, y2⟩ := no_e b1 (by omega) b5 en
        rw [uf_X9_one_229, if_neg (fun k => hx (by rw [k]; exact n0))] at e9
        apply mm_sub3 e8
        apply mm_sub4 e9
        exact ⟨rfl, rfl, rfl, Int.le_refl _, b3, by omega, y1, y2, by omega, by omega⟩
      by_cases c : (4 : Int32) ≤ x2
      · have dc4 := i_le c
        rw [if_pos c] at e8 e9
        exact E (by omega) e8 e9
      · have dc4 := i_nle c
        rw [if_neg c] at e8 e9
        obtain ⟨r2, nr2, e8⟩ := mm_bd1s e8
        have h2 := nx_e nr2
        rw [di_e, bs_1] at e8
        obtain ⟨s2, ns2, e9⟩ := mm_bd1s e9
        have g2 := HB p s2 (by omega) ns2
        by_cases k : 48 ≤ r2.toInt ∧ r2.toInt ≤ 57
        · have k8 : 48 ≤ (nb_8 (fun k => tape8.getD k 0) n p).toInt ∧ (nb_8 (fun k => tape8.getD k 0) n p).toInt ≤ 57 := by rw [← h2]; exact k
          have hlt := nb_p k8.1
          have hs : s2 = r2 := by rw [g2, h2]; exact nb_e hlt
          rw [decide_eq_true k, if_neg (by decide)] at e8
          obtain ⟨r7, nr7, e8⟩ := mm_bd1s e8
          have h7 := nx_e nr7
          rw [← h2] at h7
          rw [nm_eq, nm_eq, nm_eq, h7] at e8
          rw [if_neg (fun q => absurd (i_lt q) (by rw [hs]; omega))] at e9
          obtain ⟨s3, ns3, e9⟩ := mm_bd1s e9
          have g3 := HB p s3 (by omega) ns3
          rw [← g2, hs] at g3
          rw [if_neg (fun q => absurd (i_lt q) (by rw [g3]; omega))] at e9
          obtain ⟨s4, ns4, e9⟩ := mm_bd1s e9
          have g4 := HB p s4 (by omega) ns4
          rw [← g2, hs] at g4
          rw [nm_eq, nm_eq, nm_eq, g4, Int32.mul_comm (10 : Int32) x1] at e9
          generalize hy1 : x1 * (10 : Int32) = y1 at e8 e9
          have ey1 := i_mulRE (c := 10) (by decide) hy1 (by omega) (by omega)
          generalize hy2 : y1 + r2 = y2 at e8 e9
          have ey2 := i_addE hy2 (by omega) (by omega)
          generalize hy3 : y2 - (48 : Int32) = y3 at e8 e9
          have ey3 := i_subE hy3 (by omega) (by omega)
          generalize hy4 : p + (1 : Int32) = p1 at e8 e9
          have ey4 := i_addE hy4 (by omega) (by omega)
          generalize hy5 : x2 + (1 : Int32) = x3 at e8 e9
          have ey5 := i_addE hy5 (by omega) (by omega)
          obtain ⟨q1, q2, q3, q4, q5, q6, q7, q8, q9, q10⟩ := ih m' y3 x3 dc p1 D dc' p' D' v a9 f9 o9 (pb_n hb (by omega) hlt) (by unfold vd_w; omega) (fun h => absurd h (by omega)) e8 e9
          exact ⟨q1, q2, q3, by omega, q5, by omega, q7, q8, q9, q10⟩
        · have hx : ¬ x2.toInt = 0 := fun h => k (by rw [h2]; exact hd h)
          have k9 : ¬ (48 ≤ s2.toInt ∧ s2.toInt ≤ 57) := fun h => k (by rw [h2]; rw [g2] at h; exact nb_d9.mp h)
          rw [decide_eq_false k, if_pos rfl] at e8
          by_cases k1 : s2 < (48 : Int32)
          · rw [if_pos k1] at e9
            exact E hx e8 e9
          · have d1 := i_nlt k1
            rw [if_neg k1] at e9
            obtain ⟨s3, ns3, e9⟩ := mm_bd1s e9
            have g3 := HB p s3 (by omega) ns3
            rw [← g2] at g3
            rw [g3, if_pos (show (57 : Int32) < s2 by rw [Int32.lt_iff_toInt_lt]; omega)] at e9
            exact E hx e8 e9
theorem na_e (x : Int32) : fX2_isName 700 x = some (decide (x = 98 ∨ x = 102 ∨ x = 107 ∨ x = 110 ∨ x = 114 ∨ x = 119)) := by
  unfold fX2_isName
  by_cases c1 : x = 98
  · rw [if_pos c1, decide_eq_true (Or.inl c1)]
  · rw [if_neg c1]
    by_cases c2 : x = 102
    · rw [if_pos c2, decide_eq_true (Or.inr (Or.inl c2))]
    · rw [if_neg c2]
      by_cases c3 : x = 107
      · rw [if_pos c3, decide_eq_true (Or.inr (Or.inr (Or.inl c3)))]
      · rw [if_neg c3]
        by_cases c4 : x = 110
        · rw [if_pos c4, decide_eq_true (Or.inr (Or.inr (Or.inr (Or.inl c4))))]
        · rw [if_neg c4]
          by_cases c5 : x = 114
          · rw [if_pos c5, decide_eq_true (Or.inr (Or.inr (Or.inr (Or.inr (Or.inl c5)))))]
          · rw [if_neg c5]
            by_cases c6 : x = 119
            · rw [if_pos c6, decide_eq_true (Or.inr (Or.inr (Or.inr (Or.inr (Or.inr c6)))))]
            · rw [if_neg c6, decide_eq_false]
              rintro (h | h | h | h | h | h)
              · exact c1 h
              · exact c2 h
              · exact c3 h
              · exact c4 h
              · exact c5 h
              · exact c6 h
theorem nn_e {x r : Int32} (e : fX9_nameOf 700 x = some r) : (na_w x → 0 ≤ r.toInt ∧ r.toInt < 6 ∧ ∀ nm : List Int32, mm_ig nm r = nw_w nm x) ∧ (¬ na_w x → r = -1) := by
  unfold fX9_nameOf at e
  unfold na_w nw_w
  by_cases c1 : x = 98
  · rw [if_pos c1] at e
    have e := sm_i e
    subst e
    exact ⟨fun _ => ⟨by decide, by decide, fun nm => by rw [if_pos c1]; rfl⟩, fun h => absurd (Or.inl c1) h⟩
  · rw [if_neg c1] at e
    by_cases c2 : x = 102
    · rw [if_pos c2] at e
      have e := sm_i e
      subst e
      exact ⟨fun _ => ⟨by decide, by decide, fun nm => by rw [if_neg c1, if_pos c2]; rfl⟩, fun h => absurd (Or.inr (Or.inl c2)) h⟩
    · rw [if_neg c2] at e
      by_cases c3 : x = 107
      · rw [if_pos c3] at e
        have e := sm_i e
        subst e
        exact ⟨fun _ => ⟨by decide, by decide, fun nm => by rw [if_neg c1, if_neg c2, if_pos c3]; rfl⟩, fun h => absurd (Or.inr (Or.inr (Or.inl c3))) h⟩
      · rw [if_neg c3] at e
        by_cases c4 : x = 110
        · rw [if_pos c4] at e
          have e := sm_i e
          subst e
          exact ⟨fun _ => ⟨by decide, by decide, fun nm => by rw [if_neg c1, if_neg c2, if_neg c3, if_pos c4]; rfl⟩, fun h => absurd (Or.inr (Or.inr (Or.inr (Or.inl c4)))) h⟩
        · rw [if_neg c4] at e
          by_cases c5 : x = 114
          · rw [if_pos c5] at e
            have e := sm_i e
            subst e
            exact ⟨fun _ => ⟨by decide, by decide, fun nm => by rw [if_neg c1, if_neg c2, if_neg c3, if_neg c4, if_pos c5]; rfl⟩, fun h => absurd (Or.inr (Or.inr (Or.inr (Or.inr (Or.inl c5))))) h⟩
          · rw [if_neg c5] at e
            by_cases c6 : x = 119
            · rw [if_pos c6] at e
              have e := sm_i e
              subst e
              exact ⟨fun _ => ⟨by decide, by decide, fun nm => by rw [if_neg c1, if_neg c2, if_neg c3, if_neg c4, if_neg c5]; rfl⟩, fun h => absurd (Or.inr (Or.inr (Or.inr (Or.inr (Or.inr c6))))) h⟩
            · rw [if_neg c6] at e
              have e := sm_i e
              subst e
              refine ⟨fun h => ?_, fun _ => rfl⟩
              rcases h with h | h | h | h | h | h
              · exact absurd h c1
              · exact absurd h c2
              · exact absurd h c3
              · exact absurd h c4
              · exact absurd h c5
              · exact absurd h c6
theorem fl_8 {p f r : Int32} (e : fX2_fail 700 p f = some r) : r = if 0 ≤ f.toInt then f else p := by
  have n0 : (0 : Int32).toInt = 0 := by decide
  unfold fX2_fail at e
  by_cases c : (0 : Int32) ≤ f
  · have d := i_le c
    rw [if_pos c] at e
    rw [if_pos (by omega)]
    exact (sm_i e).symm
  · have d := i_nle c
    rw [if_neg c] at e
    rw [if_neg (by omega)]
    exact (sm_i e).symm
theorem fl_9 {p f r s : Int32} (e : fX9_wrong 700 p f = some (r, s)) : s = if 0 ≤ f.toInt then f else p := by
  have n0 : (0 : Int32).toInt = 0 := by decide
  unfold fX9_wrong fX9_wrong_19 at e
  by_cases c : (0 : Int32) ≤ f
  · have d := i_le c
    rw [if_pos c] at e
    rw [if_pos (by omega)]
    apply mm_sub2 e
    rfl
  · have d := i_nle c
    rw [if_neg c] at e
    rw [if_neg (by omega)]
    apply mm_sub2 e
    rfl
end
