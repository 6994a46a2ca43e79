/-! Geometry: copies -/
theorem ps_to {l : List Int32} {i v u : Int32} {a : Nat} (h1 : i.toInt.toNat = a) (h2 : v = u) : ps_w l (mm_is l i v) a u := by
  rw [← h1, ← h2]
  exact ps_is l i v
theorem iy_e {x1 x9 : Int32} (h0 : 0 ≤ x1.toInt) (h1 : x1.toInt ≤ 5) (k0 : 0 ≤ x9.toInt) (k1 : x9.toInt ≤ 64) : (((64 : Int32) * x1) + x9).toInt.toNat = 64 * x1.toInt.toNat + x9.toInt.toNat := by
  generalize hz : (64 : Int32) * x1 = z
  have ez := i_mulLE (c := 64) (by decide) hz (by omega) (by omega)
  generalize hy : z + x9 = y
  have ey := i_addE hy (by omega) (by omega)
  omega
/-- creases of a level kept elsewhere -/
def fc_w (o : Nat) (wo la wo' la' : List Int32) : Prop := ∀ j : Nat, j < 384 → (j < o ∨ o + 64 ≤ j) → wo'.getD j 0 = wo.getD j 0 ∧ la'.getD j 0 = la.getD j 0
theorem co_128 {x1 x2 : Int32} {sR sC row col bel fac : List Int32} (a0 : 0 ≤ x1.toInt) (a5 : x1.toInt ≤ 5) (b0 : 0 ≤ x2.toInt) (b5 : x2.toInt ≤ 5) (ab : x1.toInt ≠ x2.toInt) : ∀ (n : Nat) (x3 : Int32) (wo la sR' sC' row' col' bel' fac' wo' la' : List Int32), fX9_copies_128 700 n x1 x2 x3 sR sC row col bel fac wo la = some (sR', sC', row', col', bel', fac', wo', la') → 0 ≤ x3.toInt → x3.toInt ≤ 64 → wo.length = 384 → la.length = 384 → (sR' = sR ∧ sC' = sC ∧ row' = row ∧ col' = col ∧ bel' = bel ∧ fac' = fac ∧ wo'.length = 384 ∧ la'.length = 384) ∧ (∀ j : Nat, j < 384 → (j < 64 * x2.toInt.toNat + x3.toInt.toNat ∨ 64 * x2.toInt.toNat + 64 ≤ j) → wo'.getD j 0 = wo.getD j 0 ∧ la'.getD j 0 = la.getD j 0) ∧ (∀ k : Nat, x3.toInt.toNat ≤ k → k < 64 → wo'.getD (64 * x2.toInt.toNat + k) 0 = wo.getD (64 * x1.toInt.toNat + k) 0 ∧ la'.getD (64 * x2.toInt.toNat + k) 0 = la.getD (64 * x1.toInt.toNat + k) 0) := by
  have n1 : (1 : Int32).toInt = 1 := by decide
  have n64 : (64 : Int32).toInt = 64 := by decide
  intro n
  induction n with
  | zero =>
    intro x3 wo la sR' sC' row' col' bel' fac' wo' la' e
    exact absurd e (by intro h; cases h)
  | succ n ih =>
    intro x3 wo la sR' sC' row' col' bel' fac' wo' la' e p0 p1 l1 l2
    rw [uf_X9_copies_128] at e
    by_cases c : (64 : Int32) ≤ x3
    · rw [if_pos c] at e
      have d := i_le c
      have e := sm_i e
      injection e with e1 e
      injection e with e2 e
      injection e with e3 e
      injection e with e4 e
      injection e with e5 e
      injection e with e6 e
      injection e with e7 e8
      subst e1 e2 e3 e4 e5 e6 e7 e8
      exact ⟨⟨rfl, rfl, rfl, rfl, rfl, rfl, l1, l2⟩, fun j _ _ => ⟨rfl, rfl⟩, fun k k0 k1 => absurd k1 (by omega)⟩
    · rw [if_neg c] at e
      have d := i_nle c
      have e := ck_x e
      rw [nm_eq] at e
      have e := ck_x e
      rw [nm_eq] at e
      have e := ck_x e
      rw [nm_eq] at e
      have e := ck_x e
      rw [nm_eq] at e
      rw [nm_eq] at e
      have i1 := iy_e a0 a5 p0 p1
      have i2 := iy_e b0 b5 p0 p1
      have s1 := ps_to (l := wo) (i := (((64 : Int32) * x2) + x3)) i2 (show mm_ig wo (((64 : Int32) * x1) + x3) = wo.getD (64 * x1.toInt.toNat + x3.toInt.toNat) 0 by rw [ge_ig, i1])
      have s2 := ps_to (l := la) (i := (((64 : Int32) * x2) + x3)) i2 (show mm_ig la (((64 : Int32) * x1) + x3) = la.getD (64 * x1.toInt.toNat + x3.toInt.toNat) 0 by rw [ge_ig, i1])
      generalize hy : x3 + (1 : Int32) = y at e
      have ey := i_addE hy (by omega) (by omega)
      obtain ⟨q1, q2, q3⟩ := ih y _ _ sR' sC' row' col' bel' fac' wo' la' e (by omega) (by omega) (by rw [is_len]; exact l1) (by rw [is_len]; exact l2)
      refine ⟨q1, fun j hj hk => ?_, fun k k0 k1 => ?_⟩
      · obtain ⟨u1, u2⟩ := q2 j hj (by omega)
        rw [u1, u2, ps_ne s1 (by omega) (by omega), ps_ne s2 (by omega) (by omega)]
        exact ⟨rfl, rfl⟩
      · by_cases g : x3.toInt.toNat = k
        · obtain ⟨u1, u2⟩ := q2 (64 * x2.toInt.toNat + k) (by omega) (by omega)
          rw [← g] at u1 u2 ⊢
          rw [u1, u2, ps_at s1 (by omega), ps_at s2 (by omega)]
          exact ⟨rfl, rfl⟩
        · obtain ⟨u1, u2⟩ := q3 k (by omega) k1
          rw [u1, u2, ps_ne s1 (by omega) (by omega), ps_ne s2 (by omega) (by omega)]
          exact ⟨rfl, rfl⟩
theorem co_26 {x1 x2 : Int32} {sR sC wo la : List Int32} {z : List Int32 × List Int32 × List Int32 × List Int32 × List Int32 × List Int32 × List Int32 × List Int32} (a0 : 0 ≤ x1.toInt) (a5 : x1.toInt ≤ 5) (b0 : 0 ≤ x2.toInt) (b5 : x2.toInt ≤ 5) (ab : x1.toInt ≠ x2.toInt) : ∀ (n : Nat) (x3 : Int32) (row col bel fac : List Int32), fX9_copies_26 700 n x1 x2 x3 sR sC row col bel fac wo la = some z → 0 ≤ x3.toInt → x3.toInt ≤ 32 → row.length = 192 → col.length = 192 → bel.length = 192 → fac.length = 192 → ∃ row' col' bel' fac' : List Int32, fX9_copies_128 700 700 x1 x2 (0 : Int32) sR sC row' col' bel' fac' wo la = some z ∧ (row'.length = 192 ∧ col'.length = 192 ∧ bel'.length = 192 ∧ fac'.length = 192) ∧ (∀ j : Nat, j < 192 → (j < 32 * x2.toInt.toNat + x3.toInt.toNat ∨ 32 * x2.toInt.toNat + 32 ≤ j) → row'.getD j 0 = row.getD j 0 ∧ col'.getD j 0 = col.getD j 0 ∧ bel'.getD j 0 = bel.getD j 0 ∧ fac'.getD j 0 = fac.getD j 0) ∧ (∀ k : Nat, x3.toInt.toNat ≤ k → k < 32 → row'.getD (32 * x2.toInt.toNat + k) 0 = row.getD (32 * x1.toInt.toNat + k) 0 ∧ col'.getD (32 * x2.toInt.toNat + k) 0 = col.getD (32 * x1.toInt.toNat + k) 0 ∧ bel'.getD (32 * x2.toInt.toNat + k) 0 = bel.getD (32 * x1.toInt.toNat + k) 0 ∧ fac'.getD (32 * x2.toInt.toNat + k) 0 = fac.getD (32 * x1.toInt.toNat + k) 0) := by
  have n1 : (1 : Int32).toInt = 1 := by decide
  have n32 : (32 : Int32).toInt = 32 := by decide
  intro n
  induction n with
  | zero =>
    intro x3 row col bel fac e
    exact absurd e (by intro h; cases h)
  | succ n ih =>
    intro x3 row col bel fac e p0 p1 l1 l2 l3 l4
    rw [uf_X9_copies_26] at e
    by_cases c : (32 : Int32) ≤ x3
    · rw [if_pos c] at e
      have d := i_le c
      exact ⟨row, col, bel, fac, e, ⟨l1, l2, l3, l4⟩, fun j _ _ => ⟨rfl, rfl, rfl, rfl⟩, fun k k0 k1 => absurd k1 (by omega)⟩
    · rw [if_neg c] at e
      have d := i_nle c
      have e := ck_x e
      rw [nm_eq] at e
      have e := ck_x e
      rw [nm_eq] at e
      have e := ck_x e
      rw [nm_eq] at e
      have e := ck_x e
      rw [nm_eq] at e
      have e := ck_x e
      rw [nm_eq] at e
      have e := ck_x e
      rw [nm_eq] at e
      have e := ck_x e
      rw [nm_eq] at e
      have e := ck_x e
      rw [nm_eq] at e
      rw [nm_eq] at e
      have i1 := ix_e a0 a5 p0 (show x3.toInt ≤ 64 by omega)
      have i2 := ix_e b0 b5 p0 (show x3.toInt ≤ 64 by omega)
      have s1 := ps_to (l := row) (i := (((32 : Int32) * x2) + x3)) i2 (show mm_ig row (((32 : Int32) * x1) + x3) = row.getD (32 * x1.toInt.toNat + x3.toInt.toNat) 0 by rw [ge_ig, i1])
      have s2 := ps_to (l := col) (i := (((32 : Int32) * x2) + x3)) i2 (show mm_ig col (((32 : Int32) * x1) + x3) = col.getD (32 * x1.toInt.toNat + x3.toInt.toNat) 0 by rw [ge_ig, i1])
      have s3 := ps_to (l := bel) (i := (((32 : Int32) * x2) + x3)) i2 (show mm_ig bel (((32 : Int32) * x1) + x3) = bel.getD (32 * x1.toInt.toNat + x3.toInt.toNat) 0 by rw [ge_ig, i1])
      have s4 := ps_to (l := fac) (i := (((32 : Int32) * x2) + x3)) i2 (show mm_ig fac (((32 : Int32) * x1) + x3) = fac.getD (32 * x1.toInt.toNat + x3.toInt.toNat) 0 by rw [ge_ig, i1])
      generalize hy : x3 + (1 : Int32) = y at e
      have ey := i_addE hy (by omega) (by omega)
      obtain ⟨row', col', bel', fac', q0, q1, q2, q3⟩ := ih y _ _ _ _ e (by omega) (by omega) (by rw [is_len]; exact l1) (by rw [is_len]; exact l2) (by rw [is_len]; exact l3) (by rw [is_len]; exact l4)
      refine ⟨row', col', bel', fac', q0, q1, fun j hj hk => ?_, fun k k0 k1 => ?_⟩
      · obtain ⟨u1, u2, u3, u4⟩ := q2 j hj (by omega)
        rw [u1, u2, u3, u4, ps_ne s1 (by omega) (by omega), ps_ne s2 (by omega) (by omega), ps_ne s3 (by omega) (by omega), ps_ne s4 (by omega) (by omega)]
        exact ⟨rfl, rfl, rfl, rfl⟩
      · by_cases g : x3.toInt.toNat = k
        · obtain ⟨u1, u2, u3, u4⟩ := q2 (32 * x2.toInt.toNat + k) (by omega) (by omega)
          rw [← g] at u1 u2 u3 u4 ⊢
          rw [u1, u2, u3, u4, ps_at s1 (by omega), ps_at s2 (by omega), ps_at s3 (by omega), ps_at s4 (by omega)]
          exact ⟨rfl, rfl, rfl, rfl⟩
        · obtain ⟨u1, u2, u3, u4⟩ := q3 k (by omega) k1
          rw [u1, u2, u3, u4, ps_ne s1 (by omega) (by omega), ps_ne s2 (by omega) (by omega), ps_ne s3 (by omega) (by omega), ps_ne s4 (by omega) (by omega)]
          exact ⟨rfl, rfl, rfl, rfl⟩
theorem co_e {x1 x2 : Int32} {sR sC row col bel fac wo la sR' sC' row' col' bel' fac' wo' la' : List Int32} (a0 : 0 ≤ x1.toInt) (a5 : x1.toInt ≤ 5) (b0 : 0 ≤ x2.toInt) (b5 : x2.toInt ≤ 5) (ab : x1.toInt ≠ x2.toInt) (l1 : row.length = 192) (l2 : col.length = 192) (l3 : bel.length = 192) (l4 : fac.length = 192) (l5 : wo.length = 384) (l6 : la.length = 384) (e : fX9_copies 700 x1 x2 sR sC row col bel fac wo la = some (sR', sC', row', col', bel', fac', wo', la')) : (sR' = mm_is sR x2 (mm_ig sR x1) ∧ sC' = mm_is sC x2 (mm_ig sC x1)) ∧ fq_w (32 * x2.toInt.toNat) 32 row col bel fac row' col' bel' fac' ∧ fc_w (64 * x2.toInt.toNat) wo la wo' la' ∧ (∀ k : Nat, k < 32 → row'.getD (32 * x2.toInt.toNat + k) 0 = row.getD (32 * x1.toInt.toNat + k) 0 ∧ col'.getD (32 * x2.toInt.toNat + k) 0 = col.getD (32 * x1.toInt.toNat + k) 0 ∧ bel'.getD (32 * x2.toInt.toNat + k) 0 = bel.getD (32 * x1.toInt.toNat + k) 0 ∧ fac'.getD (32 * x2.toInt.toNat + k) 0 = fac.getD (32 * x1.toInt.toNat + k) 0) ∧ (∀ k : Nat, k < 64 → wo'.getD (64 * x2.toInt.toNat + k) 0 = wo.getD (64 * x1.toInt.toNat + k) 0 ∧ la'.getD (64 * x2.toInt.toNat + k) 0 = la.getD (64 * x1.toInt.toNat + k) 0) := by
  have n0 : (0 : Int32).toInt = 0 := by decide
  unfold fX9_copies at e
  have e := ck_x e
  rw [nm_eq] at e
  have e := ck_x e
  rw [nm_eq] at e
  have e := ck_x e
  rw [nm_eq] at e
  have e := ck_x e
  rw [nm_eq] at e
  obtain ⟨row1, col1, bel1, fac1, e, q1, q2, q3⟩ := co_26 a0 a5 b0 b5 ab 700 (0 : Int32) row col bel fac e (by omega) (by omega) l1 l2 l3 l4
  obtain ⟨⟨u1, u2, u3, u4, u5, u6, u7, u8⟩, v2, v3⟩ := co_128 a0 a5 b0 b5 ab 700 (0 : Int32) wo la sR' sC' row' col' bel' fac' wo' la' e (by omega) (by omega) l5 l6
  subst u3 u4 u5 u6
  exact ⟨⟨u1, u2⟩, fun j hj hk => q2 j hj (by omega), fun j hj hk => v2 j hj (by omega), fun k hk => q3 k (by omega) hk, fun k hk => v3 k (by omega) hk⟩
theorem sa_7 {x1 ro co : Int32} {sR sC row col bel fac : List Int32} (b0 : 1 ≤ x1.toInt) (b5 : x1.toInt ≤ 5) : ∀ (n : Nat) (x2 : Int32) (wo la sR' sC' row' col' bel' fac' wo' la' : List Int32), fX9_startsAt_7 700 n x1 x2 ro co sR sC row col bel fac wo la = some (sR', sC', row', col', bel', fac', wo', la') → 0 ≤ x2.toInt → x2.toInt ≤ 64 → wo.length = 384 → la.length = 384 → (sR' = sR ∧ sC' = sC ∧ row' = row ∧ col' = col ∧ bel' = bel ∧ fac' = fac ∧ wo'.length = 384 ∧ la'.length = 384) ∧ (∀ j : Nat, j < 384 → (j < 64 * x1.toInt.toNat + x2.toInt.toNat ∨ 64 * x1.toInt.toNat + 64 ≤ j) → wo'.getD j 0 = wo.getD j 0 ∧ la'.getD j 0 = la.getD j 0) ∧ (∀ k : Nat, x2.toInt.toNat ≤ k → k < 64 → wo'.getD (64 * x1.toInt.toNat + k) 0 = wo.getD k 0 ∧ la'.getD (64 * x1.toInt.toNat + k) 0 = la.getD k 0) := by
  have n1 : (1 : Int32).toInt = 1 := by decide
  have n64 : (64 : Int32).toInt = 64 := by decide
  intro n
  induction n with
  | zero =>
    intro x2 wo la sR' sC' row' col' bel' fac' wo' la' e
    exact absurd e (by intro h; cases h)
  | succ n ih =>
    intro x2 wo la sR' sC' row' col' bel' fac' wo' la' e p0 p1 l1 l2
    rw [uf_X9_startsAt_7] at e
    by_cases c : (64 : Int32) ≤ x2
    · rw [if_pos c] at e
      have d := i_le c
      have e := sm_i e
      injection e with e1 e
      injection e with e2 e
      injection e with e3 e
      injection e with e4 e
      injection e with e5 e
      injection e with e6 e
      injection e with e7 e8
      subst e1 e2 e3 e4 e5 e6 e7 e8
      exact ⟨⟨rfl, rfl, rfl, rfl, rfl, rfl, l1, l2⟩, fun j _ _ => ⟨rfl, rfl⟩, fun k k0 k1 => absurd k1 (by omega)⟩
    · rw [if_neg c] at e
      have d := i_nle c
      have e := ck_x e
      rw [nm_eq] at e
      have e := ck_x e
      rw [nm_eq] at e
      have e := ck_x e
      rw [nm_eq] at e
      have e := ck_x e
      rw [nm_eq] at e
      rw [nm_eq] at e
      have i2 := iy_e (show 0 ≤ x1.toInt by omega) b5 p0 p1
      have s1 := ps_to (l := wo) (i := (((64 : Int32) * x1) + x2)) i2 (show mm_ig wo x2 = wo.getD x2.toInt.toNat 0 from rfl)
      have s2 := ps_to (l := la) (i := (((64 : Int32) * x1) + x2)) i2 (show mm_ig la x2 = la.getD x2.toInt.toNat 0 from rfl)
      generalize hy : x2 + (1 : Int32) = y at e
      have ey := i_addE hy (by omega) (by omega)
      obtain ⟨q1, q2, q3⟩ := ih y _ _ sR' sC' row' col' bel' fac' wo' la' e (by omega) (by omega) (by rw [is_len]; exact l1) (by rw [is_len]; exact l2)
      refine ⟨q1, fun j hj hk => ?_, fun k k0 k1 => ?_⟩
      · obtain ⟨u1, u2⟩ := q2 j hj (by omega)
        rw [u1, u2, ps_ne s1 (by omega) (by omega), ps_ne s2 (by omega) (by omega)]
        exact ⟨rfl, rfl⟩
      · by_cases g : x2.toInt.toNat = k
        · obtain ⟨u1, u2⟩ := q2 (64 * x1.toInt.toNat + k) (by omega) (by omega)
          rw [← g] at u1 u2 ⊢
          rw [u1, u2, ps_at s1 (by omega), ps_at s2 (by omega)]
          exact ⟨rfl, rfl⟩
        · obtain ⟨u1, u2⟩ := q3 k (by omega) k1
          rw [u1, u2, ps_ne s1 (by omega) (by omega), ps_ne s2 (by omega) (by omega)]
          exact ⟨rfl, rfl⟩
theorem sa_r {x1 ro co : Int32} {sR sC row col bel fac wo la sR' sC' row' col' bel' fac' wo' la' : List Int32} {m : Nat} (hm : (ro * co).toInt = m) (m32 : m ≤ 32) (c0 : 1 ≤ co.toInt) (c8 : co.toInt ≤ 8) (b0 : 1 ≤ x1.toInt) (b5 : x1.toInt ≤ 5) (l1 : row.length = 192) (l2 : col.length = 192) (l3 : bel.length = 192) (l4 : fac.length = 192) (l5 : wo.length = 384) (l6 : la.length = 384) (e : fX9_startsAt 700 x1 ro co sR sC row col bel fac wo la = some (sR', sC', row', col', bel', fac', wo', la')) : (sR' = mm_is sR x1 ro ∧ sC' = mm_is sC x1 co ∧ row'.length = 192 ∧ col'.length = 192 ∧ bel'.length = 192 ∧ fac'.length = 192 ∧ wo'.length = 384 ∧ la'.length = 384) ∧ fq_w (32 * x1.toInt.toNat) m row col bel fac row' col' bel' fac' ∧ fl_w m co.toInt (32 * x1.toInt.toNat) row' col' bel' fac' ∧ fc_w (64 * x1.toInt.toNat) wo la wo' la' ∧ (∀ k : Nat, k < 64 → wo'.getD (64 * x1.toInt.toNat + k) 0 = wo.getD k 0 ∧ la'.getD (64 * x1.toInt.toNat + k) 0 = la.getD k 0) := by
  have n0 : (0 : Int32).toInt = 0 := by decide
  unfold fX9_startsAt at e
  obtain ⟨w1, w2, w3, w4, w5, w6, e1, e⟩ := mm_bd6s e
  obtain ⟨q1, q2, ⟨q3, q4, q5, q6⟩, q7, q8⟩ := li_e hm m32 c0 c8 (by omega) b5 l1 l2 l3 l4 e1
  obtain ⟨⟨u1, u2, u3, u4, u5, u6, u7, u8⟩, v2, v3⟩ := sa_7 b0 b5 700 (0 : Int32) wo la sR' sC' row' col' bel' fac' wo' la' e (by omega) (by omega) l5 l6
  subst u1 u2 u3 u4 u5 u6
  exact ⟨⟨q1, q2, q3, q4, q5, q6, u7, u8⟩, q7, q8, fun j hj hk => v2 j hj (by omega), fun k hk => v3 k (by omega) hk⟩
theorem cp_e {v_rows v_cols v_high v_wide v_folds v_wrong v_more p_rows p_cols p_high p_wide p_folds p_wrong p_more : Int32} {R C B F W A R' C' B' F' W' A' : List Int32} (l1 : R.length = 32) (l2 : C.length = 32) (l3 : B.length = 32) (l4 : F.length = 32) (l5 : W.length = 64) (l6 : A.length = 64) (k1 : R'.length = 32) (k2 : C'.length = 32) (k3 : B'.length = 32) (k4 : F'.length = 32) (k5 : W'.length = 64) (k6 : A'.length = 64) : fX5_copy 700 v_rows v_cols v_high v_wide v_folds v_wrong v_more R C B F W A p_rows p_cols p_high p_wide p_folds p_wrong p_more R' C' B' F' W' A' = some (p_rows, p_cols, p_high, p_wide, p_folds, p_wrong, p_more, R', C', B', F', W', A') := by
  have n0 : (0 : Int32).toInt = 0 := by decide
  have n32 : (32 : Int32).toInt = 32 := by decide
  have n64 : (64 : Int32).toInt = 64 := by decide
  unfold fX5_copy
  rw [ck_t (i_cok (by omega) (by omega) (by omega) (by omega) (by omega)), nm_eq, ck_t (i_cok (by omega) (by omega) (by omega) (by omega) (by omega)), nm_eq, ck_t (i_cok (by omega) (by omega) (by omega) (by omega) (by omega)), nm_eq, ck_t (i_cok (by omega) (by omega) (by omega) (by omega) (by omega)), nm_eq, ck_t (i_cok (by omega) (by omega) (by omega) (by omega) (by omega)), nm_eq, ck_t (i_cok (by omega) (by omega) (by omega) (by omega) (by omega)), nm_eq, cp_all k1 l1 n32, cp_all k2 l2 n32, cp_all k3 l3 n32, cp_all k4 l4 n32, cp_all k5 l5 n64, cp_all k6 l6 n64]
