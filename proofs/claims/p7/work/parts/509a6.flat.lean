/-! Geometry: laid flat -/
theorem lo_30 {k : Int32 → Int32 → Int32 → Int32 → Int32 → Int32 → List Int32 → List Int32 → List Int32 → List Int32 → Option (Int32 × Int32 × List Int32 × List Int32 × List Int32 × List Int32)} {x2 rows cols hg wd : Int32} {z : Int32 × Int32 × List Int32 × List Int32 × List Int32 × List Int32} {b : Nat} (c0 : 1 ≤ cols.toInt) (c8 : cols.toInt ≤ 8) (hb : (b : Int) + cols.toInt ≤ 32) : ∀ (n : Nat) (x1 x3 : Int32) (R C B F : List Int32), fX5_layOut_30 700 k n x1 x2 x3 rows cols hg wd R C B F = some z → 0 ≤ x3.toInt → x3.toInt ≤ cols.toInt → x1.toInt = b + x3.toInt → R.length = 32 → C.length = 32 → B.length = 32 → F.length = 32 → ∃ (y : Int32) (R1 C1 B1 F1 : List Int32), y.toInt = b + cols.toInt ∧ k y (x2 + (1 : Int32)) rows cols hg wd R1 C1 B1 F1 = some z ∧ (R1.length = 32 ∧ C1.length = 32 ∧ B1.length = 32 ∧ F1.length = 32) ∧ (∀ j : Nat, j < x1.toInt.toNat → R1.getD j 0 = R.getD j 0 ∧ C1.getD j 0 = C.getD j 0 ∧ B1.getD j 0 = B.getD j 0 ∧ F1.getD j 0 = F.getD j 0) ∧ (∀ j : Nat, x1.toInt.toNat ≤ j → (j : Int) < b + cols.toInt → R1.getD j 0 = x2 ∧ (C1.getD j 0).toInt = j - b ∧ B1.getD j 0 = 0 ∧ F1.getD j 0 = 0) := by
  have n1 : (1 : Int32).toInt = 1 := by decide
  intro n
  induction n with
  | zero =>
    intro x1 x3 R C B F e
    exact absurd e (by intro h; cases h)
  | succ n ih =>
    intro x1 x3 R C B F e p0 p1 hx l1 l2 l3 l4
    rw [uf_X5_layOut_30] at e
    by_cases c : cols ≤ x3
    · rw [if_pos c, nm_eq] at e
      have d := i_le c
      exact ⟨x1, R, C, B, F, by omega, e, ⟨l1, l2, l3, l4⟩, fun j _ => ⟨rfl, rfl, rfl, rfl⟩, fun j j0 j1 => absurd j1 (by omega)⟩
    · rw [if_neg c] at e
      have d := i_nle c
      have e := ck_x e
      rw [nm_eq] at e
      have e := ck_x e
      rw [nm_eq] at e
      have e := ck_x e
      rw [nm_eq] at e
      have e := ck_x e
      rw [nm_eq, nm_eq, nm_eq] at e
      have s1 := ps_is R x1 x2
      have s2 := ps_is C x1 x3
      have s3 := ps_is B x1 (0 : Int32)
      have s4 := ps_is F x1 (0 : Int32)
      generalize hy : x1 + (1 : Int32) = y at e
      have ey := i_addE hy (by omega) (by omega)
      generalize hv : x3 + (1 : Int32) = v at e
      have ev := i_addE hv (by omega) (by omega)
      obtain ⟨y2, R1, C1, B1, F1, q0, q1, q2, q3, q4⟩ := ih y v _ _ _ _ e (by omega) (by omega) (by omega) (by rw [is_len]; exact l1) (by rw [is_len]; exact l2) (by rw [is_len]; exact l3) (by rw [is_len]; exact l4)
      refine ⟨y2, R1, C1, B1, F1, q0, q1, q2, fun j hj => ?_, fun j j0 j1 => ?_⟩
      · obtain ⟨u1, u2, u3, u4⟩ := q3 j (by omega)
        rw [u1, u2, u3, u4, ps_ne s1 (by omega) (by omega), ps_ne s2 (by omega) (by omega), ps_ne s3 (by omega) (by omega), ps_ne s4 (by omega) (by omega)]
        exact ⟨rfl, rfl, rfl, rfl⟩
      · by_cases g : x1.toInt.toNat = j
        · obtain ⟨u1, u2, u3, u4⟩ := q3 j (by omega)
          rw [← g] at u1 u2 u3 u4 ⊢
          rw [u1, u2, u3, u4, ps_at s1 (by omega), ps_at s2 (by omega), ps_at s3 (by omega), ps_at s4 (by omega)]
          exact ⟨rfl, by omega, rfl, rfl⟩
        · exact q4 j (by omega) j1
theorem dv_u {a q r c : Int} (h : 0 < c) (e : a = q * c + r) (r0 : 0 ≤ r) (r1 : r < c) : a / c = q ∧ a % c = r := by
  refine (Int.ediv_emod_unique h).mpr ⟨?_, r0, r1⟩
  rw [e, Int.mul_comm q c, Int.add_comm]
/-- what a sheet laid flat is -/
def fl_w (m : Nat) (c : Int) (o : Nat) (R C B F : List Int32) : Prop := ∀ j : Nat, j < m → (R.getD (o + j) 0).toInt = (j : Int) / c ∧ (C.getD (o + j) 0).toInt = (j : Int) % c ∧ B.getD (o + j) 0 = 0 ∧ F.getD (o + j) 0 = 0
theorem lo_20 {rows cols hg wd : Int32} {m : Nat} (hm : rows.toInt * cols.toInt = m) (m32 : m ≤ 32) (r0 : 1 ≤ rows.toInt) (r4 : rows.toInt ≤ 4) (c0 : 1 ≤ cols.toInt) (c8 : cols.toInt ≤ 8) : ∀ (n : Nat) (x1 x2 : Int32) (R C B F : List Int32) (h' w' : Int32) (R' C' B' F' : List Int32), fX5_layOut_20 700 n x1 x2 rows cols hg wd R C B F = some (h', w', R', C', B', F') → 0 ≤ x2.toInt → x2.toInt ≤ rows.toInt → x1.toInt = x2.toInt * cols.toInt → R.length = 32 → C.length = 32 → B.length = 32 → F.length = 32 → (h' = hg ∧ w' = wd) ∧ (∀ j : Nat, j < x1.toInt.toNat → R'.getD j 0 = R.getD j 0 ∧ C'.getD j 0 = C.getD j 0 ∧ B'.getD j 0 = B.getD j 0 ∧ F'.getD j 0 = F.getD j 0) ∧ (∀ j : Nat, x1.toInt.toNat ≤ j → j < m → (R'.getD j 0).toInt = (j : Int) / cols.toInt ∧ (C'.getD j 0).toInt = (j : Int) % cols.toInt ∧ B'.getD j 0 = 0 ∧ F'.getD j 0 = 0) := by
  have n0 : (0 : Int32).toInt = 0 := by decide
  have n1 : (1 : Int32).toInt = 1 := by decide
  intro n
  induction n with
  | zero =>
    intro x1 x2 R C B F h' w' R' C' B' F' e
    exact absurd e (by intro h; cases h)
  | succ n ih =>
    intro x1 x2 R C B F h' w' R' C' B' F' e p0 p1 hx l1 l2 l3 l4
    rw [uf_X5_layOut_20] at e
    by_cases c : rows ≤ x2
    · rw [if_pos c] at e
      have d := i_le c
      have e := sm_i e
      injection e with e1 e
      injection e with e2 e
      injection e with e3 e
      injection e with e4 e
      injection e with e5 e6
      subst e1 e2 e3 e4 e5 e6
      have hr : x2.toInt = rows.toInt := by omega
      rw [hr, hm] at hx
      exact ⟨⟨rfl, rfl⟩, fun j _ => ⟨rfl, rfl, rfl, rfl⟩, fun j j0 j1 => absurd j1 (by omega)⟩
    · rw [if_neg c] at e
      have d := i_nle c
      have hb0 : 0 ≤ x2.toInt * cols.toInt := Int.mul_nonneg p0 (by omega)
      have hb1 : (x2.toInt + 1) * cols.toInt ≤ rows.toInt * cols.toInt := Int.mul_le_mul_of_nonneg_right (by omega) (by omega)
      rw [Int.add_mul, Int.one_mul, hm] at hb1
      obtain ⟨b, hb⟩ : ∃ b : Nat, (b : Int) = x2.toInt * cols.toInt := ⟨(x2.toInt * cols.toInt).toNat, by omega⟩
      rw [← hb] at hb0 hb1 hx
      obtain ⟨y, R1, C1, B1, F1, q0, q1, ⟨g1, g2, g3, g4⟩, q3, q4⟩ := lo_30 (b := b) c0 c8 (by omega) 700 x1 (0 : Int32) R C B F e (by omega) (by omega) (by omega) l1 l2 l3 l4
      generalize hv : x2 + (1 : Int32) = v at q1
      have ev := i_addE hv (by omega) (by omega)
      have hv2 : y.toInt = v.toInt * cols.toInt := by rw [ev, n1, Int.add_mul, Int.one_mul, ← hb]; exact q0
      obtain ⟨j1, j2, j3⟩ := ih y v R1 C1 B1 F1 h' w' R' C' B' F' q1 (by omega) (by omega) hv2 g1 g2 g3 g4
      refine ⟨j1, fun j hj => ?_, fun j h0 h1 => ?_⟩
      · obtain ⟨u1, u2, u3, u4⟩ := j2 j (by omega)
        obtain ⟨v1, v2, v3, v4⟩ := q3 j hj
        rw [u1, u2, u3, u4, v1, v2, v3, v4]
        exact ⟨rfl, rfl, rfl, rfl⟩
      · by_cases g : (j : Int) < b + cols.toInt
        · obtain ⟨u1, u2, u3, u4⟩ := j2 j (by omega)
          obtain ⟨v1, v2, v3, v4⟩ := q4 j h0 g
          rw [u1, u2, u3, u4, v1, v2, v3, v4]
          obtain ⟨w1, w2⟩ := dv_u (a := (j : Int)) (q := x2.toInt) (r := (j : Int) - b) (c := cols.toInt) (by omega) (by rw [← hb]; omega) (by omega) (by omega)
          rw [w1, w2]
          exact ⟨rfl, rfl, rfl, rfl⟩
        · exact j3 j (by omega) h1
theorem lo_e {rows cols high wide h' w' : Int32} {R C B F R' C' B' F' : List Int32} {m : Nat} (hm : rows.toInt * cols.toInt = m) (m32 : m ≤ 32) (r0 : 1 ≤ rows.toInt) (r4 : rows.toInt ≤ 4) (c0 : 1 ≤ cols.toInt) (c8 : cols.toInt ≤ 8) (l1 : R.length = 32) (l2 : C.length = 32) (l3 : B.length = 32) (l4 : F.length = 32) (e : fX5_layOut 700 rows cols high wide R C B F = some (h', w', R', C', B', F')) : h' = rows ∧ w' = cols ∧ fl_w m cols.toInt 0 R' C' B' F' := by
  have n0 : (0 : Int32).toInt = 0 := by decide
  have z0 : (0 : Int32).toInt.toNat = 0 := by decide
  unfold fX5_layOut at e
  obtain ⟨⟨j1, j2⟩, -, j3⟩ := lo_20 hm m32 r0 r4 c0 c8 700 (0 : Int32) (0 : Int32) R C B F h' w' R' C' B' F' e (by omega) (by omega) (by rw [n0, Int.zero_mul]) l1 l2 l3 l4
  refine ⟨j1, j2, fun j hj => ?_⟩
  rw [Nat.zero_add]
  exact j3 j (by omega) hj
theorem li_22 {x1 ro co : Int32} {sR sC : List Int32} {m : Nat} (hm : (ro * co).toInt = m) (m32 : m ≤ 32) (c0 : 1 ≤ co.toInt) (c8 : co.toInt ≤ 8) (L0 : 0 ≤ x1.toInt) (L5 : x1.toInt ≤ 5) : ∀ (n : Nat) (x2 : Int32) (row col bel fac sR' sC' row' col' bel' fac' : List Int32), fX9_liesFlat_22 700 n x1 x2 ro co sR sC row col bel fac = some (sR', sC', row', col', bel', fac') → 0 ≤ x2.toInt → x2.toInt ≤ m → row.length = 192 → col.length = 192 → bel.length = 192 → fac.length = 192 → (sR' = sR ∧ sC' = sC ∧ row'.length = 192 ∧ col'.length = 192 ∧ bel'.length = 192 ∧ fac'.length = 192) ∧ (∀ j : Nat, j < 192 → (j < 32 * x1.toInt.toNat + x2.toInt.toNat ∨ 32 * x1.toInt.toNat + m ≤ j) → row'.getD j 0 = row.getD j 0 ∧ col'.getD j 0 = col.getD j 0 ∧ bel'.getD j 0 = bel.getD j 0 ∧ fac'.getD j 0 = fac.getD j 0) ∧ (∀ k : Nat, x2.toInt.toNat ≤ k → k < m → (row'.getD (32 * x1.toInt.toNat + k) 0).toInt = (k : Int) / co.toInt ∧ (col'.getD (32 * x1.toInt.toNat + k) 0).toInt = (k : Int) % co.toInt ∧ bel'.getD (32 * x1.toInt.toNat + k) 0 = 0 ∧ fac'.getD (32 * x1.toInt.toNat + k) 0 = 0) := by
  have n1 : (1 : Int32).toInt = 1 := by decide
  intro n
  induction n with
  | zero =>
    intro x2 row col bel fac sR' sC' row' col' bel' fac' e
    exact absurd e (by intro h; cases h)
  | succ n ih =>
    intro x2 row col bel fac sR' sC' row' col' bel' fac' e p0 p1 l1 l2 l3 l4
    rw [uf_X9_liesFlat_22] at e
    obtain ⟨f, ef, e⟩ := mm_bd1s e
    have hf : ro * co = f := sm_i ef
    subst hf
    by_cases c : ro * co ≤ x2
    · rw [if_pos c] at e
      have d := i_le c
      have e := sm_i e
      injection e with e1 e
      injection e with e2 e
      injection e with e3 e
      injection e with e4 e
      injection e with e5 e6
      subst e1 e2 e3 e4 e5 e6
      exact ⟨⟨rfl, rfl, l1, l2, l3, l4⟩, fun j _ _ => ⟨rfl, rfl, rfl, rfl⟩, fun k k0 k1 => absurd k1 (by omega)⟩
    · rw [if_neg c] at e
      have d := i_nle c
      have e := ck_x e
      rw [nm_eq] at e
      have e := ck_x e
      rw [nm_eq] at e
      have e := ck_x e
      rw [nm_eq] at e
      have e := ck_x e
      rw [nm_eq] at e
      have e := ck_x e
      rw [nm_eq] at e
      have e := ck_x e
      rw [nm_eq, nm_eq] at e
      have io := ix_e L0 L5 p0 (show x2.toInt ≤ 64 by omega)
      have s1 := ps_is row (((32 : Int32) * x1) + x2) (x2 / co)
      have s2 := ps_is col (((32 : Int32) * x1) + x2) (mm_rem x2 co)
      have s3 := ps_is bel (((32 : Int32) * x1) + x2) (0 : Int32)
      have s4 := ps_is fac (((32 : Int32) * x1) + x2) (0 : Int32)
      rw [io] at s1 s2 s3 s4
      have hdv : (x2 / co).toInt = x2.toInt / co.toInt := (i_div x2 co (by omega)).resolve_left (by omega)
      have hrm : (mm_rem x2 co).toInt = x2.toInt % co.toInt := ((i_rem x2 co (by omega)).resolve_left (by omega)).1
      generalize hy : x2 + (1 : Int32) = y at e
      have ey := i_addE hy (by omega) (by omega)
      obtain ⟨q1, q2, q3⟩ := ih y _ _ _ _ sR' sC' row' col' bel' fac' e (by omega) (by omega) (by rw [is_len]; exact l1) (by rw [is_len]; exact l2) (by rw [is_len]; exact l3) (by rw [is_len]; exact l4)
      refine ⟨q1, fun j hj hk => ?_, fun k k0 k1 => ?_⟩
      · obtain ⟨u1, u2, u3, u4⟩ := q2 j hj (by omega)
        rw [u1, u2, u3, u4, ps_ne s1 (by omega) (by omega), ps_ne s2 (by omega) (by omega), ps_ne s3 (by omega) (by omega), ps_ne s4 (by omega) (by omega)]
        exact ⟨rfl, rfl, rfl, rfl⟩
      · by_cases g : x2.toInt.toNat = k
        · obtain ⟨u1, u2, u3, u4⟩ := q2 (32 * x1.toInt.toNat + k) (by omega) (by omega)
          rw [← g] at u1 u2 u3 u4 ⊢
          rw [u1, u2, u3, u4, ps_at s1 (by omega), ps_at s2 (by omega), ps_at s3 (by omega), ps_at s4 (by omega), hdv, hrm]
          have hk : ((x2.toInt.toNat : Nat) : Int) = x2.toInt := by omega
          rw [hk]
          exact ⟨rfl, rfl, rfl, rfl⟩
        · exact q3 k (by omega) k1
theorem li_e {x1 ro co : Int32} {sR sC row col bel fac sR' sC' row' col' bel' fac' : List Int32} {m : Nat} (hm : (ro * co).toInt = m) (m32 : m ≤ 32) (c0 : 1 ≤ co.toInt) (c8 : co.toInt ≤ 8) (L0 : 0 ≤ x1.toInt) (L5 : x1.toInt ≤ 5) (l1 : row.length = 192) (l2 : col.length = 192) (l3 : bel.length = 192) (l4 : fac.length = 192) (e : fX9_liesFlat 700 x1 ro co sR sC row col bel fac = some (sR', sC', row', col', bel', fac')) : sR' = mm_is sR x1 ro ∧ sC' = mm_is sC x1 co ∧ (row'.length = 192 ∧ col'.length = 192 ∧ bel'.length = 192 ∧ fac'.length = 192) ∧ fq_w (32 * x1.toInt.toNat) m row col bel fac row' col' bel' fac' ∧ fl_w m co.toInt (32 * x1.toInt.toNat) row' col' bel' fac' := by
  have n0 : (0 : Int32).toInt = 0 := by decide
  have z0 : (0 : Int32).toInt.toNat = 0 := by decide
  unfold fX9_liesFlat at e
  have e := ck_x e
  rw [nm_eq] at e
  have e := ck_x e
  rw [nm_eq] at e
  obtain ⟨⟨q1, q2, q3⟩, q4, q5⟩ := li_22 hm m32 c0 c8 L0 L5 700 (0 : Int32) row col bel fac sR' sC' row' col' bel' fac' e (by omega) (by omega) l1 l2 l3 l4
  exact ⟨q1, q2, q3, fun j hj hk => q4 j hj (by omega), fun k hk => q5 k (by omega) hk⟩
theorem fl_x {m o : Nat} {c : Int} {R C B F row col bel fac : List Int32} (h8 : fl_w m c 0 R C B F) (h9 : fl_w m c o row col bel fac) : gx_w m o R C B F row col bel fac := fun k hk => by
  obtain ⟨a1, a2, a3, a4⟩ := h8 k hk
  obtain ⟨b1, b2, b3, b4⟩ := h9 k hk
  rw [Nat.zero_add] at a1 a2 a3 a4
  exact ⟨Int32.toInt_inj.mp (by rw [b1, a1]), Int32.toInt_inj.mp (by rw [b2, a2]), by rw [b3, a3], by rw [b4, a4]⟩
