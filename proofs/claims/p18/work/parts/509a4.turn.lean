section
/-! Geometry: piles, the turn whole -/
theorem fi_5 {v x3 : Int32} : ∀ (n : Nat) (x2 : Int32) (l l' : List Int32), fJ7_fill_53178_5 700 n v x2 x3 l = some l' → 0 ≤ x2.toInt → x3.toInt ≤ l.length → x3.toInt < 2147483647 → l'.length = l.length ∧ ∀ k : Nat, k < l.length → l'.getD k 0 = if x2.toInt.toNat ≤ k ∧ k < x3.toInt.toNat then v else l.getD k 0 := by
  have n1 : (1 : Int32).toInt = 1 := by decide
  intro n
  induction n with
  | zero =>
    intro x2 l l' e
    exact absurd e (by intro h; cases h)
  | succ n ih =>
    intro x2 l l' e p0 p1 p2
    rw [uf_J7_fill_53178_5] at e
    by_cases c : x3 ≤ x2
    · rw [if_pos c] at e
      have d := i_le c
      have e := sm_i e
      subst e
      exact ⟨rfl, fun k hk => by rw [if_neg (by omega)]⟩
    · rw [if_neg c] at e
      have d := i_nle c
      have e := ck_x e
      rw [nm_eq, nm_eq] at e
      generalize hy : x2 + (1 : Int32) = y at e
      have ey := i_addE hy (by omega) (by omega)
      obtain ⟨q1, q2⟩ := ih y _ l' e (by omega) (by rw [is_len]; exact p1) p2
      rw [is_len] at q1 q2
      refine ⟨q1, fun k hk => ?_⟩
      rw [q2 k hk, ge_is _ _ _ _ hk]
      by_cases g : x2.toInt.toNat = k
      · rw [if_neg (by omega), if_pos g, if_pos (by omega)]
      · rw [if_neg g]
        by_cases h : x2.toInt.toNat ≤ k ∧ k < x3.toInt.toNat
        · rw [if_pos (by omega), if_pos h]
        · rw [if_neg (by omega), if_neg h]
theorem fi_e {v : Int32} {l l' : List Int32} (e : fJ7_fill_53178 700 v l = some l') (h : l.length ≤ 1000) : l'.length = l.length ∧ ∀ k : Nat, k < l.length → l'.getD k 0 = v := by
  rw [uf_J7_fill_53178, nm_eq] at e
  have n0 : (0 : Int32).toInt = 0 := by decide
  have hn : (Int32.ofNat l.length).toInt = (l.length : Int) := Int32.toInt_ofNat_of_lt (by omega)
  obtain ⟨q1, q2⟩ := fi_5 700 (0 : Int32) l l' e (by omega) (by omega) (by omega)
  refine ⟨q1, fun k hk => ?_⟩
  rw [q2 k hk, if_pos (by omega)]
def it_w (r c : Int32) : Int32 := (r * (8 : Int32)) + c
theorem ms_10 {rows cols : Int32} {R C : List Int32} {m : Nat} (hm : (rows * cols).toInt = m) (m32 : m ≤ 32) : ∀ (n : Nat) (x1 : Int32) (T T' : List Int32), fX5_measurePiles_10 700 n x1 rows cols R C T = some T' → 0 ≤ x1.toInt → x1.toInt ≤ m → T'.length = T.length ∧ ∀ j : Nat, j < T.length → T'.getD j 0 = T.getD j 0 + kc_w (fun k => decide ((it_w (R.getD k 0) (C.getD k 0)).toInt.toNat = j)) x1.toInt.toNat (m - x1.toInt.toNat) := by
  have n1 : (1 : Int32).toInt = 1 := by decide
  intro n
  induction n with
  | zero =>
    intro x1 T T' e
    exact absurd e (by intro h; cases h)
  | succ n ih =>
    intro x1 T T' e p0 p1
    rw [uf_X5_measurePiles_10] at e
    obtain ⟨fl, ef, e⟩ := mm_bd1s e
    have hf : rows * cols = fl := sm_i ef
    subst hf
    by_cases c : rows * cols ≤ x1
    · rw [if_pos c] at e
      have d := i_le c
      have e := sm_i e
      subst e
      have q : m - x1.toInt.toNat = 0 := by omega
      refine ⟨rfl, fun j hj => ?_⟩
      rw [q]
      exact (Int32.add_zero _).symm
    · rw [if_neg c] at e
      have d := i_nle c
      have e := ck_x (ck_x (ck_x e))
      rw [nm_eq] at e
      have e := ck_x e
      rw [nm_eq, nm_eq] at e
      have hi' : it_w (R.getD x1.toInt.toNat 0) (C.getD x1.toInt.toNat 0) = ((mm_ig R x1) * (8 : Int32)) + (mm_ig C x1) := rfl
      rw [← hi'] at e
      generalize hi2 : it_w (R.getD x1.toInt.toNat 0) (C.getD x1.toInt.toNat 0) = i at e
      generalize hy : x1 + (1 : Int32) = y at e
      have ey := i_addE hy (by omega) (by omega)
      obtain ⟨q1, q2⟩ := ih y _ T' e (by omega) (by omega)
      rw [is_len] at q1 q2
      refine ⟨q1, fun j hj => ?_⟩
      rw [q2 j hj, ge_is _ _ _ _ hj]
      obtain ⟨u, hu⟩ : ∃ u : Nat, m - x1.toInt.toNat = u + 1 := ⟨m - x1.toInt.toNat - 1, by omega⟩
      have hu2 : m - y.toInt.toNat = u := by omega
      have hy2 : y.toInt.toNat = x1.toInt.toNat + 1 := by omega
      rw [hu, hu2, hy2]
      show _ = T.getD j 0 + ((if decide ((it_w (R.getD x1.toInt.toNat 0) (C.getD x1.toInt.toNat 0)).toInt.toNat = j) = true then (1 : Int32) else (0 : Int32)) + kc_w _ (x1.toInt.toNat + 1) u)
      rw [hi2]
      by_cases g : i.toInt.toNat = j
      · rw [if_pos g, decide_eq_true g, if_pos rfl, ge_ig, g, Int32.add_assoc]
      · rw [if_neg g, decide_eq_false g, if_neg (by decide), Int32.zero_add]
def s8_w (x1 x2 high wide : Int32) : Int32 := if csw x2 = false then mm_min (0 : Int32) (((2 : Int32) * x1) - (if (4 : Int32) ≤ x2 then high else wide)) else x1
theorem tn_e {x1 x2 rows cols high wide h' w' : Int32} {R C B F T R' C' B' F' T' : List Int32} {m : Nat} (hm : (rows * cols).toInt = m) (m32 : m ≤ 32) (l1 : R.length = 32) (l2 : C.length = 32) (l3 : B.length = 32) (l4 : F.length = 32) (l5 : T.length = 32) (e : fX5_turn 700 x1 x2 rows cols high wide R C B F T = some (h', w', R', C', B', F', T')) : ∃ T1 : List Int32, T1.length = 32 ∧ (∀ j : Nat, j < 32 → T1.getD j 0 = kc_w (fun k => decide ((it_w (R.getD k 0) (C.getD k 0)).toInt.toNat = j)) 0 m) ∧ (h' = (if (4 : Int32) ≤ x2 then mm_max x1 (high - x1) else high) ∧ w' = (if (4 : Int32) ≤ x2 then wide else mm_max x1 (wide - x1))) ∧ (∀ k : Nat, k < m → mv_w T1 high wide x2 x1 (s8_w x1 x2 high wide) (R.getD k 0) (C.getD k 0) (B.getD k 0) (F.getD k 0) (R'.getD k 0) (C'.getD k 0) (B'.getD k 0) (F'.getD k 0)) := by
  have n0 : (0 : Int32).toInt = 0 := by decide
  have z0 : (0 : Int32).toInt.toNat = 0 := by decide
  rw [uf_X5_turn] at e
  obtain ⟨T1, et, e⟩ := mm_bd1s e
  rw [uf_X5_measurePiles] at et
  obtain ⟨T0, e0, et⟩ := mm_bd1s et
  obtain ⟨a1, a2⟩ := fi_e e0 (by omega)
  obtain ⟨b1, b2⟩ := ms_10 hm m32 700 (0 : Int32) T0 T1 et (by omega) (by omega)
  obtain ⟨s, es, e⟩ := mm_bd1s e
  have hs := sp_e es
  obtain ⟨q, eq, e⟩ := mm_bd1s e
  have hq := cs_e eq
  subst hq
  have e2 : fX5_turn_35 700 700 x1 x2 (s8_w x1 x2 high wide) (0 : Int32) rows cols high wide R C B F T1 = some (h', w', R', C', B', F', T') := by
    unfold s8_w
    rw [← hs]
    by_cases g : csw x2 = false
    · rw [if_pos g] at e ⊢
      exact e
    · rw [if_neg g] at e ⊢
      exact e
  obtain ⟨j1, -, j3⟩ := tu_35 hm m32 700 (0 : Int32) R C B F h' w' R' C' B' F' T' e2 (by omega) (by omega) l1 l2 l3 l4
  rw [z0] at b2
  refine ⟨T1, by omega, fun j hj => ?_, j1, fun k hk => j3 k (by omega) hk⟩
  rw [b2 j (by omega), a2 j (by omega), Int32.zero_add]
  rfl
theorem it_i {r c : Int32} (r0 : 0 ≤ r.toInt) (r1 : r.toInt < 8) (c0 : 0 ≤ c.toInt) (c1 : c.toInt < 8) : (it_w r c).toInt = 8 * r.toInt + c.toInt := by
  unfold it_w
  generalize hz : r * (8 : Int32) = z
  have ez := i_mulRE (c := 8) (by decide) hz (by omega) (by omega)
  generalize hy : z + c = y
  have ey := i_addE hy (by omega) (by omega)
  omega
theorem i8_i {x a : Int32} (r0 : 0 ≤ x.toInt) (r1 : x.toInt < 8) (c0 : 0 ≤ a.toInt) (c1 : a.toInt < 8) : (((8 : Int32) * x) + a).toInt = 8 * x.toInt + a.toInt := by
  generalize hz : (8 : Int32) * x = z
  have ez := i_mulLE (c := 8) (by decide) hz (by omega) (by omega)
  generalize hy : z + a = y
  have ey := i_addE hy (by omega) (by omega)
  omega
theorem wy_8 : ∀ k : Fin 8, l9_w (Int32.ofNat k.val) = mm_b (csw (Int32.ofNat k.val)) ∧ o9_w (v9_w (Int32.ofNat k.val)) = ovw (Int32.ofNat k.val) := by decide +kernel
theorem on_x {u : Int32} (h0 : 0 ≤ u.toInt) (h1 : u.toInt < 128) : Int32.ofNat u.toInt.toNat = u := by
  apply Int32.toInt_inj.mp
  rw [Int32.toInt_ofNat_of_lt (by omega)]
  omega
theorem wy_e {w : Int32} (h0 : 0 ≤ w.toInt) (h1 : w.toInt ≤ 7) : l9_w w = mm_b (csw w) ∧ o9_w (v9_w w) = ovw w := by
  have q := wy_8 ⟨w.toInt.toNat, by omega⟩
  rw [on_x h0 (by omega)] at q
  exact q
theorem b9_p {w : Int32} (h : (4 : Int32) ≤ w) : b9_w w = 0 := by
  unfold b9_w
  rw [if_pos h]
theorem b9_n {w : Int32} (h : ¬ (4 : Int32) ≤ w) : b9_w w = 1 := by
  unfold b9_w
  rw [if_neg h]
theorem al_p (w r c : Int32) : pl_w (b9_w w) r c = al_w w r c := by
  unfold pl_w al_w
  by_cases h : (4 : Int32) ≤ w
  · rw [b9_p h, if_pos rfl, if_pos h]
  · rw [b9_n h, if_neg (by decide), if_neg h]
theorem ac_p (w r c : Int32) : pc_w (b9_w w) r c = ac_w w r c := by
  unfold pc_w ac_w
  by_cases h : (4 : Int32) ≤ w
  · rw [b9_p h, if_pos rfl, if_pos h]
  · rw [b9_n h, if_neg (by decide), if_neg h]
/-- the piles' heights, told both ways -/
theorem hq_e {w a x : Int32} {R C T1 PS1 : List Int32} {m : Nat} (rr : ∀ k : Nat, k < m → 0 ≤ (R.getD k 0).toInt ∧ (R.getD k 0).toInt < 4) (rc : ∀ k : Nat, k < m → 0 ≤ (C.getD k 0).toInt ∧ (C.getD k 0).toInt < 8) (t1 : ∀ j : Nat, j < 32 → T1.getD j 0 = kc_w (fun k => decide ((it_w (R.getD k 0) (C.getD k 0)).toInt.toNat = j)) 0 m) (t2 : ∀ j : Nat, j < 64 → PS1.getD j 0 = kc_w (fun k => decide ((iw_w (b9_w w) (R.getD k 0) (C.getD k 0)).toInt.toNat = j)) 0 m) (a0 : 0 ≤ a.toInt) (a1 : a.toInt < (if (4 : Int32) ≤ w then (4 : Int) else (8 : Int))) (x0 : 0 ≤ x.toInt) (x1 : x.toInt < (if (4 : Int32) ≤ w then (8 : Int) else (4 : Int))) : (if (4 : Int32) ≤ w then mm_ig T1 ((a * (8 : Int32)) + x) else mm_ig T1 ((x * (8 : Int32)) + a)) = PS1.getD (((8 : Int32) * x) + a).toInt.toNat 0 := by
  by_cases h : (4 : Int32) ≤ w
  · rw [if_pos h] at a1 x1 ⊢
    have e1 := it_i a0 (by omega) x0 x1
    have e2 := i8_i x0 x1 a0 (by omega)
    show T1.getD (it_w a x).toInt.toNat 0 = _
    rw [t1 _ (by omega), t2 _ (by omega)]
    refine kc_c m 0 (fun k k0 k1 => ?_)
    obtain ⟨u0, u1⟩ := rr k (by omega)
    obtain ⟨v0, v1⟩ := rc k (by omega)
    have e3 := it_i u0 (by omega) v0 v1
    have e4 := i8_i v0 v1 u0 (by omega)
    have e5 : iw_w (b9_w w) (R.getD k 0) (C.getD k 0) = ((8 : Int32) * C.getD k 0) + R.getD k 0 := by
      unfold iw_w
      rw [b9_p h]
      rfl
    rw [e5]
    exact decide_eq_decide.mpr (by omega)
  · rw [if_neg h] at a1 x1 ⊢
    have e1 := it_i x0 (by omega) a0 a1
    have e2 := i8_i x0 (by omega) a0 a1
    show T1.getD (it_w x a).toInt.toNat 0 = _
    rw [t1 _ (by omega), t2 _ (by omega)]
    refine kc_c m 0 (fun k k0 k1 => ?_)
    obtain ⟨u0, u1⟩ := rr k (by omega)
    obtain ⟨v0, v1⟩ := rc k (by omega)
    have e3 := it_i u0 (by omega) v0 v1
    have e4 := i8_i u0 (by omega) v0 v1
    have e5 : iw_w (b9_w w) (R.getD k 0) (C.getD k 0) = ((8 : Int32) * R.getD k 0) + C.getD k 0 := by
      unfold iw_w
      rw [b9_n h]
      rfl
    rw [e5]
    exact decide_eq_decide.mpr (by omega)
end
section
/-! Geometry: turn and moves alike -/
theorem th_e {w y x high wide : Int32} {R C T1 PS1 : List Int32} {m : Nat} (hh : 1 ≤ high.toInt ∧ high.toInt ≤ 4) (hw : 1 ≤ wide.toInt ∧ wide.toInt ≤ 8) (rr : ∀ k : Nat, k < m → 0 ≤ (R.getD k 0).toInt ∧ (R.getD k 0).toInt < 4) (rc : ∀ k : Nat, k < m → 0 ≤ (C.getD k 0).toInt ∧ (C.getD k 0).toInt < 8) (t1 : ∀ j : Nat, j < 32 → T1.getD j 0 = kc_w (fun k => decide ((it_w (R.getD k 0) (C.getD k 0)).toInt.toNat = j)) 0 m) (t2 : ∀ j : Nat, j < 64 → PS1.getD j 0 = kc_w (fun k => decide ((iw_w (b9_w w) (R.getD k 0) (C.getD k 0)).toInt.toNat = j)) 0 m) (x0 : 0 ≤ x.toInt) (x1 : x.toInt < (if (4 : Int32) ≤ w then (8 : Int) else (4 : Int))) : th_w PS1 (if (4 : Int32) ≤ w then high else wide) y x = ta_w T1 high wide w y x := by
  have n0 : (0 : Int32).toInt = 0 := by decide
  have n1 : (1 : Int32).toInt = 1 := by decide
  obtain ⟨sp, hsp, s0, s1⟩ : ∃ sp : Int32, (if (4 : Int32) ≤ w then high else wide) = sp ∧ 1 ≤ sp.toInt ∧ sp.toInt ≤ (if (4 : Int32) ≤ w then (4 : Int) else (8 : Int)) := by
    by_cases h : (4 : Int32) ≤ w
    · rw [if_pos h, if_pos h]
      exact ⟨high, rfl, hh.1, hh.2⟩
    · rw [if_neg h, if_neg h]
      exact ⟨wide, rfl, hw.1, hw.2⟩
  have s2 : sp.toInt ≤ 8 := by
    by_cases h : (4 : Int32) ≤ w
    · rw [if_pos h] at s1
      omega
    · rw [if_neg h] at s1
      omega
  unfold th_w ta_w
  rw [hsp]
  generalize hz : sp - (1 : Int32) = z
  have ez := i_subE hz (by omega) (by omega)
  by_cases c1 : y < 0
  · have d1 := i_lt c1
    rw [if_pos c1, if_neg (by omega)]
  · have d1 := i_nlt c1
    rw [if_neg c1]
    by_cases c2 : y < sp
    · have d2 := i_lt c2
      rw [if_pos c2, if_pos (by omega)]
      exact (hq_e rr rc t1 t2 (by omega) (by omega) x0 x1).symm
    · have d2 := i_nlt c2
      rw [if_neg c2, if_neg (by omega)]
theorem st_e {x1 w high wide x7 : Int32} (hx : x7 = (if (4 : Int32) ≤ w then high else wide)) (hl : l9_w w = mm_b (csw w)) : s9_w x1 (l9_w w) x7 = s8_w x1 w high wide := by
  unfold s9_w s8_w
  rw [hl, ← hx]
  cases csw w with
  | false =>
    rw [if_pos (show mm_b false = 0 by decide), if_pos (rfl : false = false)]
    unfold mm_min
    by_cases c : ((2 : Int32) * x1) - x7 < (0 : Int32)
    · have d := i_lt c
      rw [if_pos c, if_neg (fun h => absurd (i_le h) (by omega))]
    · rw [if_neg c, if_pos (Int32.not_lt.mp c)]
  | true =>
    rw [if_neg (show ¬ mm_b true = 0 by decide), if_neg (show ¬ true = false by decide)]
theorem lf_e (x1 x7 : Int32) : lf_w x1 x7 = mm_max x1 (x7 - x1) := by
  unfold lf_w mm_max
  by_cases c : x1 < x7 - x1
  · rw [if_pos c, if_pos (Int32.le_of_lt c)]
  · rw [if_neg c]
    by_cases d : x1 ≤ x7 - x1
    · rw [if_pos d]
      exact Int32.le_antisymm (Int32.not_lt.mp c) d
    · rw [if_neg d]
theorem ig_p (l : List Int32) (i v : Int32) (h0 : 0 ≤ i.toInt) (h1 : i.toInt < l.length) : mm_ig (mm_is l i v) i = v := by
  rw [ge_ig, ge_is _ _ _ _ (by omega), if_pos rfl]
/-- the geometry of a level alike -/
def gx_w (m o : Nat) (R C B F row col bel fac : List Int32) : Prop := ∀ k : Nat, k < m → row.getD (o + k) 0 = R.getD k 0 ∧ col.getD (o + k) 0 = C.getD k 0 ∧ bel.getD (o + k) 0 = B.getD k 0 ∧ fac.getD (o + k) 0 = F.getD k 0
/-- rows of a level kept elsewhere -/
def fq_w (o n : Nat) (row col bel fac row' col' bel' fac' : List Int32) : Prop := ∀ j : Nat, j < 192 → (j < o ∨ o + n ≤ j) → row'.getD j 0 = row.getD j 0 ∧ col'.getD j 0 = col.getD j 0 ∧ bel'.getD j 0 = bel.getD j 0 ∧ fac'.getD j 0 = fac.getD j 0
theorem tr_e {lv ln w rows cols high wide h' w' : Int32} {R C B F T R' C' B' F' T' sR sC row col bel fac hi to PS sR' sC' row' col' bel' fac' hi' to' PS' : List Int32} {m : Nat} (hm : (rows * cols).toInt = m) (m32 : m ≤ 32) (L0 : 0 ≤ lv.toInt) (L5 : lv.toInt ≤ 5) (w0 : 0 ≤ w.toInt) (w7 : w.toInt ≤ 7) (l1 : R.length = 32) (l2 : C.length = 32) (l3 : B.length = 32) (l4 : F.length = 32) (l5 : T.length = 32) (k1 : row.length = 192) (k2 : col.length = 192) (k3 : bel.length = 192) (k4 : fac.length = 192) (k5 : hi.length = 32) (k6 : to.length = 32) (k7 : PS.length = 64) (k8 : sR.length = 6) (k9 : sC.length = 6) (hh : 1 ≤ high.toInt ∧ high.toInt ≤ 4) (hw : 1 ≤ wide.toInt ∧ wide.toInt ≤ 8) (rr : ∀ k : Nat, k < m → 0 ≤ (R.getD k 0).toInt ∧ (R.getD k 0).toInt < high.toInt) (rc : ∀ k : Nat, k < m → 0 ≤ (C.getD k 0).toInt ∧ (C.getD k 0).toInt < wide.toInt) (g1 : mm_ig sR lv = high) (g2 : mm_ig sC lv = wide) (g3 : gx_w m (32 * lv.toInt.toNat) R C B F row col bel fac) (e8 : fX5_turn 700 ln w rows cols high wide R C B F T = some (h', w', R', C', B', F', T')) (e9 : fX9_movesAll 700 lv ln w rows cols sR sC row col bel fac hi to PS = some (sR', sC', row', col', bel', fac', hi', to', PS')) : mm_ig sR' lv = h' ∧ mm_ig sC' lv = w' ∧ gx_w m (32 * lv.toInt.toNat) R' C' B' F' row' col' bel' fac' ∧ fq_w (32 * lv.toInt.toNat) m row col bel fac row' col' bel' fac' ∧ (∀ j : Nat, j < 6 → j ≠ lv.toInt.toNat → sR'.getD j 0 = sR.getD j 0 ∧ sC'.getD j 0 = sC.getD j 0) ∧ (row'.length = 192 ∧ col'.length = 192 ∧ bel'.length = 192 ∧ fac'.length = 192 ∧ hi'.length = 32 ∧ to'.length = 32 ∧ PS'.length = 64 ∧ sR'.length = 6 ∧ sC'.length = 6) := by
  obtain ⟨T1, c1, c2, ⟨c3, c4⟩, c5⟩ := tn_e hm m32 l1 l2 l3 l4 l5 e8
  obtain ⟨x7, PS1, hi1, to1, d1, d2, d3, ⟨d4, d5⟩, d6, d7, d8⟩ := mo_e hm m32 L0 L5 k1 k2 k3 k4 k5 k6 k7 e9
  obtain ⟨wy1, wy2⟩ := wy_e w0 w7
  have hx7 : x7 = (if (4 : Int32) ≤ w then high else wide) := by
    rw [d1]
    by_cases h : (4 : Int32) ≤ w
    · rw [b9_p h, if_pos rfl, if_pos h, g1]
    · rw [b9_n h, if_neg (by decide), if_neg h, g2]
  have t2 : ∀ j : Nat, j < 64 → PS1.getD j 0 = kc_w (fun k => decide ((iw_w (b9_w w) (R.getD k 0) (C.getD k 0)).toInt.toNat = j)) 0 m := by
    intro j hj
    rw [d3 j hj]
    refine kc_c m 0 (fun k k0 k1 => ?_)
    show decide ((iw_w (b9_w w) (row.getD (32 * lv.toInt.toNat + k) 0) (col.getD (32 * lv.toInt.toNat + k) 0)).toInt.toNat = j) = decide ((iw_w (b9_w w) (R.getD k 0) (C.getD k 0)).toInt.toNat = j)
    rw [(g3 k (by omega)).1, (g3 k (by omega)).2.1]
  have rr4 : ∀ k : Nat, k < m → 0 ≤ (R.getD k 0).toInt ∧ (R.getD k 0).toInt < 4 := fun k hk => ⟨(rr k hk).1, by have := (rr k hk).2; omega⟩
  have rc8 : ∀ k : Nat, k < m → 0 ≤ (C.getD k 0).toInt ∧ (C.getD k 0).toInt < 8 := fun k hk => ⟨(rc k hk).1, by have := (rc k hk).2; omega⟩
  have hs := st_e (x1 := ln) hx7 wy1
  have hsr : mm_ig sR' lv = h' := by
    rw [c3, d4]
    by_cases h : (4 : Int32) ≤ w
    · rw [b9_p h, if_pos rfl, if_pos h, ig_p _ _ _ L0 (by omega), lf_e, hx7, if_pos h]
    · rw [b9_n h, if_neg (by decide), if_neg h, g1]
  have hsc : mm_ig sC' lv = w' := by
    rw [c4, d5]
    by_cases h : (4 : Int32) ≤ w
    · rw [b9_p h, if_pos rfl, if_pos h, g2]
    · rw [b9_n h, if_neg (by decide), if_neg h, ig_p _ _ _ L0 (by omega), lf_e, hx7, if_neg h]
  have hle : sR'.length = 6 ∧ sC'.length = 6 := by
    rw [d4, d5]
    by_cases h : b9_w w = 0
    · rw [if_pos h, if_pos h, is_len]
      exact ⟨k8, k9⟩
    · rw [if_neg h, if_neg h, is_len]
      exact ⟨k8, k9⟩
  obtain ⟨v1, v2, v3, v4, v5, v6, v7⟩ := d8
  refine ⟨hsr, hsc, fun k hk => ?_, fun j hj hk => d6 j hj hk, fun j hj hn => ?_, ⟨v1, v2, v3, v4, v5, v6, v7, hle.1, hle.2⟩⟩
  clear v1 v2 v3 v4 v5 v6 v7
  · obtain ⟨q1, q2, q3, q4⟩ := g3 k hk
    obtain ⟨v1, v2, v3, v4⟩ := c5 k hk
    obtain ⟨⟨u1, u2, u3⟩, u4, u5⟩ := d7 k hk
    rw [q1, q2] at u1 u2 u3
    rw [q3] at u1
    rw [q4] at u2
    rw [q1] at u4
    rw [q2] at u5
    have a0 := rr k hk
    have b0 := rc k hk
    generalize R.getD k 0 = r at *
    generalize C.getD k 0 = c at *
    generalize B.getD k 0 = b at *
    generalize F.getD k 0 = f at *
    have hco : c9_w ln (pl_w (b9_w w) r c) (l9_w w) = cm_w ln (al_w w r c) (csw w) := by
      unfold c9_w cm_w
      rw [wy1, al_p]
    have xr : 0 ≤ (ac_w w r c).toInt ∧ (ac_w w r c).toInt < (if (4 : Int32) ≤ w then (8 : Int) else (4 : Int)) := by
      unfold ac_w
      by_cases h : (4 : Int32) ≤ w
      · rw [if_pos h, if_pos h]
        omega
      · rw [if_neg h, if_neg h]
        omega
    have hme : ∀ y : Int32, th_w PS1 x7 y (ac_w w r c) = ta_w T1 high wide w y (ac_w w r c) := by
      intro y
      rw [hx7]
      exact th_e hh hw rr4 rc8 c2 t2 xr.1 xr.2
    have how : PS1.getD (iw_w (b9_w w) r c).toInt.toNat 0 = ta_w T1 high wide w (al_w w r c) (ac_w w r c) := by
      rw [← hme]
      unfold th_w
      have n1 : (1 : Int32).toInt = 1 := by decide
      have ar : 0 ≤ (al_w w r c).toInt ∧ (al_w w r c).toInt ≤ (x7 - (1 : Int32)).toInt := by
        generalize hz : x7 - (1 : Int32) = z
        by_cases h : (4 : Int32) ≤ w
        · rw [if_pos h] at hx7
          have ez := i_subE hz (by rw [hx7]; omega) (by rw [hx7]; omega)
          unfold al_w
          rw [if_pos h]
          rw [hx7] at ez
          omega
        · rw [if_neg h] at hx7
          have ez := i_subE hz (by rw [hx7]; omega) (by rw [hx7]; omega)
          unfold al_w
          rw [if_neg h]
          rw [hx7] at ez
          omega
      rw [if_pos ar]
      unfold iw_w
      rw [al_p, ac_p]
    rw [hco, how, wy2, al_p, ac_p, hme] at u1
    rw [hco] at u2
    rw [hco, al_p, hs] at u3
    refine ⟨?_, ?_, ?_, ?_⟩
    · rw [u4, v3]
      by_cases h : (4 : Int32) ≤ w
      · rw [b9_p h, if_pos rfl, if_pos h, u3]
      · rw [b9_n h, if_neg (by decide), if_neg h]
    · rw [u5, v4]
      by_cases h : (4 : Int32) ≤ w
      · rw [b9_p h, if_pos rfl, if_pos h]
      · rw [b9_n h, if_neg (by decide), if_neg h, u3]
    · rw [u1, v1]
    · rw [u2, v2]
  · rw [d4, d5]
    by_cases h : b9_w w = 0
    · rw [if_pos h, if_pos h, ge_is _ _ _ _ (by omega), if_neg (by omega)]
      exact ⟨rfl, rfl⟩
    · rw [if_neg h, if_neg h, ge_is _ _ _ _ (by omega), if_neg (by omega)]
      exact ⟨rfl, rfl⟩
end
section
/-! Geometry: laid flat -/
theorem lo_30 {k : Int32 → Int32 → Int32 → Int32 → Int32 → Int32 → List Int32 → List Int32 → List Int32 → List Int32 → Option (Int32 × Int32 × List Int32 × List Int32 × List Int32 × List Int32)} {x2 rows cols hg wd : Int32} {z : Int32 × Int32 × List Int32 × List Int32 × List Int32 × List Int32} {b : Nat} (c0 : 1 ≤ cols.toInt) (c8 : cols.toInt ≤ 8) (hb : (b : Int) + cols.toInt ≤ 32) : ∀ (n : Nat) (x1 x3 : Int32) (R C B F : List Int32), fX5_layOut_30 700 k n x1 x2 x3 rows cols hg wd R C B F = some z → 0 ≤ x3.toInt → x3.toInt ≤ cols.toInt → x1.toInt = b + x3.toInt → R.length = 32 → C.length = 32 → B.length = 32 → F.length = 32 → ∃ (y : Int32) (R1 C1 B1 F1 : List Int32), y.toInt = b + cols.toInt ∧ k y (x2 + (1 : Int32)) rows cols hg wd R1 C1 B1 F1 = some z ∧ (R1.length = 32 ∧ C1.length = 32 ∧ B1.length = 32 ∧ F1.length = 32) ∧ (∀ j : Nat, j < x1.toInt.toNat → R1.getD j 0 = R.getD j 0 ∧ C1.getD j 0 = C.getD j 0 ∧ B1.getD j 0 = B.getD j 0 ∧ F1.getD j 0 = F.getD j 0) ∧ (∀ j : Nat, x1.toInt.toNat ≤ j → (j : Int) < b + cols.toInt → R1.getD j 0 = x2 ∧ (C1.getD j 0).toInt = j - b ∧ B1.getD j 0 = 0 ∧ F1.getD j 0 = 0) := by
  have n1 : (1 : Int32).toInt = 1 := by decide
  intro n
  induction n with
  | zero =>
    intro x1 x3 R C B F e
    exact absurd e (by intro h; cases h)
  | succ n ih =>
    intro x1 x3 R C B F e p0 p1 hx l1 l2 l3 l4
    rw [uf_X5_layOut_30] at e
    by_cases c : cols ≤ x3
    · rw [if_pos c, nm_eq] at e
      have d := i_le c
      exact ⟨x1, R, C, B, F, by omega, e, ⟨l1, l2, l3, l4⟩, fun j _ => ⟨rfl, rfl, rfl, rfl⟩, fun j j0 j1 => absurd j1 (by omega)⟩
    · rw [if_neg c] at e
      have d := i_nle c
      have e := ck_x e
      rw [nm_eq] at e
      have e := ck_x e
      rw [nm_eq] at e
      have e := ck_x e
      rw [nm_eq] at e
      have e := ck_x e
      rw [nm_eq, nm_eq, nm_eq] at e
      have s1 := ps_is R x1 x2
      have s2 := ps_is C x1 x3
      have s3 := ps_is B x1 (0 : Int32)
      have s4 := ps_is F x1 (0 : Int32)
      generalize hy : x1 + (1 : Int32) = y at e
      have ey := i_addE hy (by omega) (by omega)
      generalize hv : x3 + (1 : Int32) = v at e
      have ev := i_addE hv (by omega) (by omega)
      obtain ⟨y2, R1, C1, B1, F1, q0, q1, q2, q3, q4⟩ := ih y v _ _ _ _ e (by omega) (by omega) (by omega) (by rw [is_len]; exact l1) (by rw [is_len]; exact l2) (by rw [is_len]; exact l3) (by rw [is_len]; exact l4)
      refine ⟨y2, R1, C1, B1, F1, q0, q1, q2, fun j hj => ?_, fun j j0 j1 => ?_⟩
      · obtain ⟨u1, u2, u3, u4⟩ := q3 j (by omega)
        rw [u1, u2, u3, u4, ps_ne s1 (by omega) (by omega), ps_ne s2 (by omega) (by omega), ps_ne s3 (by omega) (by omega), ps_ne s4 (by omega) (by omega)]
        exact ⟨rfl, rfl, rfl, rfl⟩
      · by_cases g : x1.toInt.toNat = j
        · obtain ⟨u1, u2, u3, u4⟩ := q3 j (by omega)
          rw [← g] at u1 u2 u3 u4 ⊢
          rw [u1, u2, u3, u4, ps_at s1 (by omega), ps_at s2 (by omega), ps_at s3 (by omega), ps_at s4 (by omega)]
          exact ⟨rfl, by omega, rfl, rfl⟩
        · exact q4 j (by omega) j1
theorem dv_u {a q r c : Int} (h : 0 < c) (e : a = q * c + r) (r0 : 0 ≤ r) (r1 : r < c) : a / c = q ∧ a % c = r := by
  refine (Int.ediv_emod_unique h).mpr ⟨?_, r0, r1⟩
  rw [e, Int.mul_comm q c, Int.add_comm]
/-- what a sheet laid flat is -/
def fl_w (m : Nat) (c : Int) (o : Nat) (R C B F : List Int32) : Prop := ∀ j : Nat, j < m → (R.getD (o + j) 0).toInt = (j : Int) / c ∧ (C.getD (o + j) 0).toInt = (j : Int) % c ∧ B.getD (o + j) 0 = 0 ∧ F.getD (o + j) 0 = 0
theorem lo_20 {rows cols hg wd : Int32} {m : Nat} (hm : rows.toInt * cols.toInt = m) (m32 : m ≤ 32) (r0 : 1 ≤ rows.toInt) (r4 : rows.toInt ≤ 4) (c0 : 1 ≤ cols.toInt) (c8 : cols.toInt ≤ 8) : ∀ (n : Nat) (x1 x2 : Int32) (R C B F : List Int32) (h' w' : Int32) (R' C' B' F' : List Int32), fX5_layOut_20 700 n x1 x2 rows cols hg wd R C B F = some (h', w', R', C', B', F') → 0 ≤ x2.toInt → x2.toInt ≤ rows.toInt → x1.toInt = x2.toInt * cols.toInt → R.length = 32 → C.length = 32 → B.length = 32 → F.length = 32 → (h' = hg ∧ w' = wd) ∧ (∀ j : Nat, j < x1.toInt.toNat → R'.getD j 0 = R.getD j 0 ∧ C'.getD j 0 = C.getD j 0 ∧ B'.getD j 0 = B.getD j 0 ∧ F'.getD j 0 = F.getD j 0) ∧ (∀ j : Nat, x1.toInt.toNat ≤ j → j < m → (R'.getD j 0).toInt = (j : Int) / cols.toInt ∧ (C'.getD j 0).toInt = (j : Int) % cols.toInt ∧ B'.getD j 0 = 0 ∧ F'.getD j 0 = 0) := by
  have n0 : (0 : Int32).toInt = 0 := by decide
  have n1 : (1 : Int32).toInt = 1 := by decide
  intro n
  induction n with
  | zero =>
    intro x1 x2 R C B F h' w' R' C' B' F' e
    exact absurd e (by intro h; cases h)
  | succ n ih =>
    intro x1 x2 R C B F h' w' R' C' B' F' e p0 p1 hx l1 l2 l3 l4
    rw [uf_X5_layOut_20] at e
    by_cases c : rows ≤ x2
    · rw [if_pos c] at e
      have d := i_le c
      have e := sm_i e
      injection e with e1 e
      injection e with e2 e
      injection e with e3 e
      injection e with e4 e
      injection e with e5 e6
      subst e1 e2 e3 e4 e5 e6
      have hr : x2.toInt = rows.toInt := by omega
      rw [hr, hm] at hx
      exact ⟨⟨rfl, rfl⟩, fun j _ => ⟨rfl, rfl, rfl, rfl⟩, fun j j0 j1 => absurd j1 (by omega)⟩
    · rw [if_neg c] at e
      have d := i_nle c
      have hb0 : 0 ≤ x2.toInt * cols.toInt := Int.mul_nonneg p0 (by omega)
      have hb1 : (x2.toInt + 1) * cols.toInt ≤ rows.toInt * cols.toInt := Int.mul_le_mul_of_nonneg_right (by omega) (by omega)
      rw [Int.add_mul, Int.one_mul, hm] at hb1
      obtain ⟨b, hb⟩ : ∃ b : Nat, (b : Int) = x2.toInt * cols.toInt := ⟨(x2.toInt * cols.toInt).toNat, by omega⟩
      rw [← hb] at hb0 hb1 hx
      obtain ⟨y, R1, C1, B1, F1, q0, q1, ⟨g1, g2, g3, g4⟩, q3, q4⟩ := lo_30 (b := b) c0 c8 (by omega) 700 x1 (0 : Int32) R C B F e (by omega) (by omega) (by omega) l1 l2 l3 l4
      generalize hv : x2 + (1 : Int32) = v at q1
      have ev := i_addE hv (by omega) (by omega)
      have hv2 : y.toInt = v.toInt * cols.toInt := by rw [ev, n1, Int.add_mul, Int.one_mul, ← hb]; exact q0
      obtain ⟨j1, j2, j3⟩ := ih y v R1 C1 B1 F1 h' w' R' C' B' F' q1 (by omega) (by omega) hv2 g1 g2 g3 g4
      refine ⟨j1, fun j hj => ?_, fun j h0 h1 => ?_⟩
      · obtain ⟨u1, u2, u3, u4⟩ := j2 j (by omega)
        obtain ⟨v1, v2, v3, v4⟩ := q3 j hj
        rw [u1, u2, u3, u4, v1, v2, v3, v4]
        exact ⟨rfl, rfl, rfl, rfl⟩
      · by_cases g : (j : Int) < b + cols.toInt
        · obtain ⟨u1, u2, u3, u4⟩ := j2 j (by omega)
          obtain ⟨v1, v2, v3, v4⟩ := q4 j h0 g
          rw [u1, u2, u3, u4, v1, v2, v3, v4]
          obtain ⟨w1, w2⟩ := dv_u (a := (j : Int)) (q := x2.toInt) (r := (j : Int) - b) (c := cols.toInt) (by omega) (by rw [← hb]; omega) (by omega) (by omega)
          rw [w1, w2]
          exact ⟨rfl, rfl, rfl, rfl⟩
        · exact j3 j (by omega) h1
theorem lo_e {rows cols high wide h' w' : Int32} {R C B F R' C' B' F' : List Int32} {m : Nat} (hm : rows.toInt * cols.toInt = m) (m32 : m ≤ 32) (r0 : 1 ≤ rows.toInt) (r4 : rows.toInt ≤ 4) (c0 : 1 ≤ cols.toInt) (c8 : cols.toInt ≤ 8) (l1 : R.length = 32) (l2 : C.length = 32) (l3 : B.length = 32) (l4 : F.length = 32) (e : fX5_layOut 700 rows cols high wide R C B F = some (h', w', R', C', B', F')) : h' = rows ∧ w' = cols ∧ fl_w m cols.toInt 0 R' C' B' F' := by
  have n0 : (0 : Int32).toInt = 0 := by decide
  have z0 : (0 : Int32).toInt.toNat = 0 := by decide
  unfold fX5_layOut at e
  obtain ⟨⟨j1, j2⟩, -, j3⟩ := lo_20 hm m32 r0 r4 c0 c8 700 (0 : Int32) (0 : Int32) R C B F h' w' R' C' B' F' e (by omega) (by omega) (by rw [n0, Int.zero_mul]) l1 l2 l3 l4
  refine ⟨j1, j2, fun j hj => ?_⟩
  rw [Nat.zero_add]
  exact j3 j (by omega) hj
theorem li_22 {x1 ro co : Int32} {sR sC : List Int32} {m : Nat} (hm : (ro * co).toInt = m) (m32 : m ≤ 32) (c0 : 1 ≤ co.toInt) (c8 : co.toInt ≤ 8) (L0 : 0 ≤ x1.toInt) (L5 : x1.toInt ≤ 5) : ∀ (n : Nat) (x2 : Int32) (row col bel fac sR' sC' row' col' bel' fac' : List Int32), fX9_liesFlat_22 700 n x1 x2 ro co sR sC row col bel fac = some (sR', sC', row', col', bel', fac') → 0 ≤ x2.toInt → x2.toInt ≤ m → row.length = 192 → col.length = 192 → bel.length = 192 → fac.length = 192 → (sR' = sR ∧ sC' = sC ∧ row'.length = 192 ∧ col'.length = 192 ∧ bel'.length = 192 ∧ fac'.length = 192) ∧ (∀ j : Nat, j < 192 → (j < 32 * x1.toInt.toNat + x2.toInt.toNat ∨ 32 * x1.toInt.toNat + m ≤ j) → row'.getD j 0 = row.getD j 0 ∧ col'.getD j 0 = col.getD j 0 ∧ bel'.getD j 0 = bel.getD j 0 ∧ fac'.getD j 0 = fac.getD j 0) ∧ (∀ k : Nat, x2.toInt.toNat ≤ k → k < m → (row'.getD (32 * x1.toInt.toNat + k) 0).toInt = (k : Int) / co.toInt ∧ (col'.getD (32 * x1.toInt.toNat + k) 0).toInt = (k : Int) % co.toInt ∧ bel'.getD (32 * x1.toInt.toNat + k) 0 = 0 ∧ fac'.getD (32 * x1.toInt.toNat + k) 0 = 0) := by
  have n1 : (1 : Int32).toInt = 1 := by decide
  intro n
  induction n with
  | zero =>
    intro x2 row col bel fac sR' sC' row' col' bel' fac' e
    exact absurd e (by intro h; cases h)
  | succ n ih =>
    intro x2 row col bel fac sR' sC' row' col' bel' fac' e p0 p1 l1 l2 l3 l4
    rw [uf_X9_liesFlat_22] at e
    obtain ⟨f, ef, e⟩ := mm_bd1s e
    have hf : ro * co = f := sm_i ef
    subst hf
    by_cases c : ro * co ≤ x2
    · rw [if_pos c] at e
      have d := i_le c
      have e := sm_i e
      injection e with e1 e
      injection e with e2 e
      injection e with e3 e
      injection e with e4 e
      injection e with e5 e6
      subst e1 e2 e3 e4 e5 e6
      exact ⟨⟨rfl, rfl, l1, l2, l3, l4⟩, fun j _ _ => ⟨rfl, rfl, rfl, rfl⟩, fun k k0 k1 => absurd k1 (by omega)⟩
    · rw [if_neg c] at e
      have d := i_nle c
      have e := ck_x e
      rw [nm_eq] at e
      have e := ck_x e
      rw [nm_eq] at e
      have e := ck_x e
      rw [nm_eq] at e
      have e := ck_x e
      rw [nm_eq] at e
      have e := ck_x e
      rw [nm_eq] at e
      have e := ck_x e
      rw [nm_eq, nm_eq] at e
      have io := ix_e L0 L5 p0 (show x2.toInt ≤ 64 by omega)
      have s1 := ps_is row (((32 : Int32) * x1) + x2) (x2 / co)
      have s2 := ps_is col (((32 : Int32) * x1) + x2) (mm_rem x2 co)
      have s3 := ps_is bel (((32 : Int32) * x1) + x2) (0 : Int32)
      have s4 := ps_is fac (((32 : Int32) * x1) + x2) (0 : Int32)
      rw [io] at s1 s2 s3 s4
      have hdv : (x2 / co).toInt = x2.toInt / co.toInt := (i_div x2 co (by omega)).resolve_left (by omega)
      have hrm : (mm_rem x2 co).toInt = x2.toInt % co.toInt := ((i_rem x2 co (by omega)).resolve_left (by omega)).1
      generalize hy : x2 + (1 : Int32) = y at e
      have ey := i_addE hy (by omega) (by omega)
      obtain ⟨q1, q2, q3⟩ := ih y _ _ _ _ sR' sC' row' col' bel' fac' e (by omega) (by omega) (by rw [is_len]; exact l1) (by rw [is_len]; exact l2) (by rw [is_len]; exact l3) (by rw [is_len]; exact l4)
      refine ⟨q1, fun j hj hk => ?_, fun k k0 k1 => ?_⟩
      · obtain ⟨u1, u2, u3, u4⟩ := q2 j hj (by omega)
        rw [u1, u2, u3, u4, ps_ne s1 (by omega) (by omega), ps_ne s2 (by omega) (by omega), ps_ne s3 (by omega) (by omega), ps_ne s4 (by omega) (by omega)]
        exact ⟨rfl, rfl, rfl, rfl⟩
      · by_cases g : x2.toInt.toNat = k
        · obtain ⟨u1, u2, u3, u4⟩ := q2 (32 * x1.toInt.toNat + k) (by omega) (by omega)
          rw [← g] at u1 u2 u3 u4 ⊢
          rw [u1, u2, u3, u4, ps_at s1 (by omega), ps_at s2 (by omega), ps_at s3 (by omega), ps_at s4 (by omega), hdv, hrm]
          have hk : ((x2.toInt.toNat : Nat) : Int) = x2.toInt := by omega
          rw [hk]
          exact ⟨rfl, rfl, rfl, rfl⟩
        · exact q3 k (by omega) k1
theorem li_e {x1 ro co : Int32} {sR sC row col bel fac sR' sC' row' col' bel' fac' : List Int32} {m : Nat} (hm : (ro * co).toInt = m) (m32 : m ≤ 32) (c0 : 1 ≤ co.toInt) (c8 : co.toInt ≤ 8) (L0 : 0 ≤ x1.toInt) (L5 : x1.toInt ≤ 5) (l1 : row.length = 192) (l2 : col.length = 192) (l3 : bel.length = 192) (l4 : fac.length = 192) (e : fX9_liesFlat 700 x1 ro co sR sC row col bel fac = some (sR', sC', row', col', bel', fac')) : sR' = mm_is sR x1 ro ∧ sC' = mm_is sC x1 co ∧ (row'.length = 192 ∧ col'.length = 192 ∧ bel'.length = 192 ∧ fac'.length = 192) ∧ fq_w (32 * x1.toInt.toNat) m row col bel fac row' col' bel' fac' ∧ fl_w m co.toInt (32 * x1.toInt.toNat) row' col' bel' fac' := by
  have n0 : (0 : Int32).toInt = 0 := by decide
  have z0 : (0 : Int32).toInt.toNat = 0 := by decide
  unfold fX9_liesFlat at e
  have e := ck_x e
  rw [nm_eq] at e
  have e := ck_x e
  rw [nm_eq] at e
  obtain ⟨⟨q1, q2, q3⟩, q4, q5⟩ := li_22 hm m32 c0 c8 L0 L5 700 (0 : Int32) row col bel fac sR' sC' row' col' bel' fac' e (by omega) (by omega) l1 l2 l3 l4
  exact ⟨q1, q2, q3, fun j hj hk => q4 j hj (by omega), fun k hk => q5 k (by omega) hk⟩
theorem fl_x {m o : Nat} {c : Int} {R C B F row col bel fac : List Int32} (h8 : fl_w m c 0 R C B F) (h9 : fl_w m c o row col bel fac) : gx_w m o R C B F row col bel fac := fun k hk => by
  obtain ⟨a1, a2, a3, a4⟩ := h8 k hk
  obtain ⟨b1, b2, b3, b4⟩ := h9 k hk
  rw [Nat.zero_add] at a1 a2 a3 a4
  exact ⟨Int32.toInt_inj.mp (by rw [b1, a1]), Int32.toInt_inj.mp (by rw [b2, a2]), by rw [b3, a3], by rw [b4, a4]⟩
end
section
/-! Geometry: copies -/
theorem ps_to {l : List Int32} {i v u : Int32} {a : Nat} (h1 : i.toInt.toNat = a) (h2 : v = u) : ps_w l (mm_is l i v) a u := by
  rw [← h1, ← h2]
  exact ps_is l i v
theorem iy_e {x1 x9 : Int32} (h0 : 0 ≤ x1.toInt) (h1 : x1.toInt ≤ 5) (k0 : 0 ≤ x9.toInt) (k1 : x9.toInt ≤ 64) : (((64 : Int32) * x1) + x9).toInt.toNat = 64 * x1.toInt.toNat + x9.toInt.toNat := by
  generalize hz : (64 : Int32) * x1 = z
  have ez := i_mulLE (c := 64) (by decide) hz (by omega) (by omega)
  generalize hy : z + x9 = y
  have ey := i_addE hy (by omega) (by omega)
  omega
/-- creases of a level kept elsewhere -/
def fc_w (o : Nat) (wo la wo' la' : List Int32) : Prop := ∀ j : Nat, j < 384 → (j < o ∨ o + 64 ≤ j) → wo'.getD j 0 = wo.getD j 0 ∧ la'.getD j 0 = la.getD j 0
theorem co_128 {x1 x2 : Int32} {sR sC row col bel fac : List Int32} (a0 : 0 ≤ x1.toInt) (a5 : x1.toInt ≤ 5) (b0 : 0 ≤ x2.toInt) (b5 : x2.toInt ≤ 5) (ab : x1.toInt ≠ x2.toInt) : ∀ (n : Nat) (x3 : Int32) (wo la sR' sC' row' col' bel' fac' wo' la' : List Int32), fX9_copies_128 700 n x1 x2 x3 sR sC row col bel fac wo la = some (sR', sC', row', col', bel', fac', wo', la') → 0 ≤ x3.toInt → x3.toInt ≤ 64 → wo.length = 384 → la.length = 384 → (sR' = sR ∧ sC' = sC ∧ row' = row ∧ col' = col ∧ bel' = bel ∧ fac' = fac ∧ wo'.length = 384 ∧ la'.length = 384) ∧ (∀ j : Nat, j < 384 → (j < 64 * x2.toInt.toNat + x3.toInt.toNat ∨ 64 * x2.toInt.toNat + 64 ≤ j) → wo'.getD j 0 = wo.getD j 0 ∧ la'.getD j 0 = la.getD j 0) ∧ (∀ k : Nat, x3.toInt.toNat ≤ k → k < 64 → wo'.getD (64 * x2.toInt.toNat + k) 0 = wo.getD (64 * x1.toInt.toNat + k) 0 ∧ la'.getD (64 * x2.toInt.toNat + k) 0 = la.getD (64 * x1.toInt.toNat + k) 0) := by
  have n1 : (1 : Int32).toInt = 1 := by decide
  have n64 : (64 : Int32).toInt = 64 := by decide
  intro n
  induction n with
  | zero =>
    intro x3 wo la sR' sC' row' col' bel' fac' wo' la' e
    exact absurd e (by intro h; cases h)
  | succ n ih =>
    intro x3 wo la sR' sC' row' col' bel' fac' wo' la' e p0 p1 l1 l2
    rw [uf_X9_copies_128] at e
    by_cases c : (64 : Int32) ≤ x3
    · rw [if_pos c] at e
      have d := i_le c
      have e := sm_i e
      injection e with e1 e
      injection e with e2 e
      injection e with e3 e
      injection e with e4 e
      injection e with e5 e
      injection e with e6 e
      injection e with e7 e8
      subst e1 e2 e3 e4 e5 e6 e7 e8
      exact ⟨⟨rfl, rfl, rfl, rfl, rfl, rfl, l1, l2⟩, fun j _ _ => ⟨rfl, rfl⟩, fun k k0 k1 => absurd k1 (by omega)⟩
    · rw [if_neg c] at e
      have d := i_nle c
      have e := ck_x e
      rw [nm_eq] at e
      have e := ck_x e
      rw [nm_eq] at e
      have e := ck_x e
      rw [nm_eq] at e
      have e := ck_x e
      rw [nm_eq] at e
      rw [nm_eq] at e
      have i1 := iy_e a0 a5 p0 p1
      have i2 := iy_e b0 b5 p0 p1
      have s1 := ps_to (l := wo) (i := (((64 : Int32) * x2) + x3)) i2 (show mm_ig wo (((64 : Int32) * x1) + x3) = wo.getD (64 * x1.toInt.toNat + x3.toInt.toNat) 0 by rw [ge_ig, i1])
      have s2 := ps_to (l := la) (i := (((64 : Int32) * x2) + x3)) i2 (show mm_ig la (((64 : Int32) * x1) + x3) = la.getD (64 * x1.toInt.toNat + x3.toInt.toNat) 0 by rw [ge_ig, i1])
      generalize hy : x3 + (1 : Int32) = y at e
      have ey := i_addE hy (by omega) (by omega)
      obtain ⟨q1, q2, q3⟩ := ih y _ _ sR' sC' row' col' bel' fac' wo' la' e (by omega) (by omega) (by rw [is_len]; exact l1) (by rw [is_len]; exact l2)
      refine ⟨q1, fun j hj hk => ?_, fun k k0 k1 => ?_⟩
      · obtain ⟨u1, u2⟩ := q2 j hj (by omega)
        rw [u1, u2, ps_ne s1 (by omega) (by omega), ps_ne s2 (by omega) (by omega)]
        exact ⟨rfl, rfl⟩
      · by_cases g : x3.toInt.toNat = k
        · obtain ⟨u1, u2⟩ := q2 (64 * x2.toInt.toNat + k) (by omega) (by omega)
          rw [← g] at u1 u2 ⊢
          rw [u1, u2, ps_at s1 (by omega), ps_at s2 (by omega)]
          exact ⟨rfl, rfl⟩
        · obtain ⟨u1, u2⟩ := q3 k (by omega) k1
          rw [u1, u2, ps_ne s1 (by omega) (by omega), ps_ne s2 (by omega) (by omega)]
          exact ⟨rfl, rfl⟩
theorem co_26 {x1 x2 : Int32} {sR sC wo la : List Int32} {z : List Int32 × List Int32 × List Int32 × List Int32 × List Int32 × List Int32 × List Int32 × List Int32} (a0 : 0 ≤ x1.toInt) (a5 : x1.toInt ≤ 5) (b0 : 0 ≤ x2.toInt) (b5 : x2.toInt ≤ 5) (ab : x1.toInt ≠ x2.toInt) : ∀ (n : Nat) (x3 : Int32) (row col bel fac : List Int32), fX9_copies_26 700 n x1 x2 x3 sR sC row col bel fac wo la = some z → 0 ≤ x3.toInt → x3.toInt ≤ 32 → row.length = 192 → col.length = 192 → bel.length = 192 → fac.length = 192 → ∃ row' col' bel' fac' : List Int32, fX9_copies_128 700 700 x1 x2 (0 : Int32) sR sC row' col' bel' fac' wo la = some z ∧ (row'.length = 192 ∧ col'.length = 192 ∧ bel'.length = 192 ∧ fac'.length = 192) ∧ (∀ j : Nat, j < 192 → (j < 32 * x2.toInt.toNat + x3.toInt.toNat ∨ 32 * x2.toInt.toNat + 32 ≤ j) → row'.getD j 0 = row.getD j 0 ∧ col'.getD j 0 = col.getD j 0 ∧ bel'.getD j 0 = bel.getD j 0 ∧ fac'.getD j 0 = fac.getD j 0) ∧ (∀ k : Nat, x3.toInt.toNat ≤ k → k < 32 → row'.getD (32 * x2.toInt.toNat + k) 0 = row.getD (32 * x1.toInt.toNat + k) 0 ∧ col'.getD (32 * x2.toInt.toNat + k) 0 = col.getD (32 * x1.toInt.toNat + k) 0 ∧ bel'.getD (32 * x2.toInt.toNat + k) 0 = bel.getD (32 * x1.toInt.toNat + k) 0 ∧ fac'.getD (32 * x2.toInt.toNat + k) 0 = fac.getD (32 * x1.toInt.toNat + k) 0) := by
  have n1 : (1 : Int32).toInt = 1 := by decide
  have n32 : (32 : Int32).toInt = 32 := by decide
  intro n
  induction n with
  | zero =>
    intro x3 row col bel fac e
    exact absurd e (by intro h; cases h)
  | succ n ih =>
    intro x3 row col bel fac e p0 p1 l1 l2 l3 l4
    rw [uf_X9_copies_26] at e
    by_cases c : (32 : Int32) ≤ x3
    · rw [if_pos c] at e
      have d := i_le c
      exact ⟨row, col, bel, fac, e, ⟨l1, l2, l3, l4⟩, fun j _ _ => ⟨rfl, rfl, rfl, rfl⟩, fun k k0 k1 => absurd k1 (by omega)⟩
    · rw [if_neg c] at e
      have d := i_nle c
      have e := ck_x e
      rw [nm_eq] at e
      have e := ck_x e
      rw [nm_eq] at e
      have e := ck_x e
      rw [nm_eq] at e
      have e := ck_x e
      rw [nm_eq] at e
      have e := ck_x e
      rw [nm_eq] at e
      have e := ck_x e
      rw [nm_eq] at e
      have e := ck_x e
      rw [nm_eq] at e
      have e := ck_x e
      rw [nm_eq] at e
      rw [nm_eq] at e
      have i1 := ix_e a0 a5 p0 (show x3.toInt ≤ 64 by omega)
      have i2 := ix_e b0 b5 p0 (show x3.toInt ≤ 64 by omega)
      have s1 := ps_to (l := row) (i := (((32 : Int32) * x2) + x3)) i2 (show mm_ig row (((32 : Int32) * x1) + x3) = row.getD (32 * x1.toInt.toNat + x3.toInt.toNat) 0 by rw [ge_ig, i1])
      have s2 := ps_to (l := col) (i := (((32 : Int32) * x2) + x3)) i2 (show mm_ig col (((32 : Int32) * x1) + x3) = col.getD (32 * x1.toInt.toNat + x3.toInt.toNat) 0 by rw [ge_ig, i1])
      have s3 := ps_to (l := bel) (i := (((32 : Int32) * x2) + x3)) i2 (show mm_ig bel (((32 : Int32) * x1) + x3) = bel.getD (32 * x1.toInt.toNat + x3.toInt.toNat) 0 by rw [ge_ig, i1])
      have s4 := ps_to (l := fac) (i := (((32 : Int32) * x2) + x3)) i2 (show mm_ig fac (((32 : Int32) * x1) + x3) = fac.getD (32 * x1.toInt.toNat + x3.toInt.toNat) 0 by rw [ge_ig, i1])
      generalize hy : x3 + (1 : Int32) = y at e
      have ey := i_addE hy (by omega) (by omega)
      obtain ⟨row', col', bel', fac', q0, q1, q2, q3⟩ := ih y _ _ _ _ e (by omega) (by omega) (by rw [is_len]; exact l1) (by rw [is_len]; exact l2) (by rw [is_len]; exact l3) (by rw [is_len]; exact l4)
      refine ⟨row', col', bel', fac', q0, q1, fun j hj hk => ?_, fun k k0 k1 => ?_⟩
      · obtain ⟨u1, u2, u3, u4⟩ := q2 j hj (by omega)
        rw [u1, u2, u3, u4, ps_ne s1 (by omega) (by omega), ps_ne s2 (by omega) (by omega), ps_ne s3 (by omega) (by omega), ps_ne s4 (by omega) (by omega)]
        exact ⟨rfl, rfl, rfl, rfl⟩
      · by_cases g : x3.toInt.toNat = k
        · obtain ⟨u1, u2, u3, u4⟩ := q2 (32 * x2.toInt.toNat + k) (by omega) (by omega)
          rw [← g] at u1 u2 u3 u4 ⊢
          rw [u1, u2, u3, u4, ps_at s1 (by omega), ps_at s2 (by omega), ps_at s3 (by omega), ps_at s4 (by omega)]
          exact ⟨rfl, rfl, rfl, rfl⟩
        · obtain ⟨u1, u2, u3, u4⟩ := q3 k (by omega) k1
          rw [u1, u2, u3, u4, ps_ne s1 (by omega) (by omega), ps_ne s2 (by omega) (by omega), ps_ne s3 (by omega) (by omega), ps_ne s4 (by omega) (by omega)]
          exact ⟨rfl, rfl, rfl, rfl⟩
theorem co_e {x1 x2 : Int32} {sR sC row col bel fac wo la sR' sC' row' col' bel' fac' wo' la' : List Int32} (a0 : 0 ≤ x1.toInt) (a5 : x1.toInt ≤ 5) (b0 : 0 ≤ x2.toInt) (b5 : x2.toInt ≤ 5) (ab : x1.toInt ≠ x2.toInt) (l1 : row.length = 192) (l2 : col.length = 192) (l3 : bel.length = 192) (l4 : fac.length = 192) (l5 : wo.length = 384) (l6 : la.length = 384) (e : fX9_copies 700 x1 x2 sR sC row col bel fac wo la = some (sR', sC', row', col', bel', fac', wo', la')) : (sR' = mm_is sR x2 (mm_ig sR x1) ∧ sC' = mm_is sC x2 (mm_ig sC x1)) ∧ fq_w (32 * x2.toInt.toNat) 32 row col bel fac row' col' bel' fac' ∧ fc_w (64 * x2.toInt.toNat) wo la wo' la' ∧ (∀ k : Nat, k < 32 → row'.getD (32 * x2.toInt.toNat + k) 0 = row.getD (32 * x1.toInt.toNat + k) 0 ∧ col'.getD (32 * x2.toInt.toNat + k) 0 = col.getD (32 * x1.toInt.toNat + k) 0 ∧ bel'.getD (32 * x2.toInt.toNat + k) 0 = bel.getD (32 * x1.toInt.toNat + k) 0 ∧ fac'.getD (32 * x2.toInt.toNat + k) 0 = fac.getD (32 * x1.toInt.toNat + k) 0) ∧ (∀ k : Nat, k < 64 → wo'.getD (64 * x2.toInt.toNat + k) 0 = wo.getD (64 * x1.toInt.toNat + k) 0 ∧ la'.getD (64 * x2.toInt.toNat + k) 0 = la.getD (64 * x1.toInt.toNat + k) 0) := by
  have n0 : (0 : Int32).toInt = 0 := by decide
  unfold fX9_copies at e
  have e := ck_x e
  rw [nm_eq] at e
  have e := ck_x e
  rw [nm_eq] at e
  have e := ck_x e
  rw [nm_eq] at e
  have e := ck_x e
  rw [nm_eq] at e
  obtain ⟨row1, col1, bel1, fac1, e, q1, q2, q3⟩ := co_26 a0 a5 b0 b5 ab 700 (0 : Int32) row col bel fac e (by omega) (by omega) l1 l2 l3 l4
  obtain ⟨⟨u1, u2, u3, u4, u5, u6, u7, u8⟩, v2, v3⟩ := co_128 a0 a5 b0 b5 ab 700 (0 : Int32) wo la sR' sC' row' col' bel' fac' wo' la' e (by omega) (by omega) l5 l6
  subst u3 u4 u5 u6
  exact ⟨⟨u1, u2⟩, fun j hj hk => q2 j hj (by omega), fun j hj hk => v2 j hj (by omega), fun k hk => q3 k (by omega) hk, fun k hk => v3 k (by omega) hk⟩
theorem sa_7 {x1 ro co : Int32} {sR sC row col bel fac : List Int32} (b0 : 1 ≤ x1.toInt) (b5 : x1.toInt ≤ 5) : ∀ (n : Nat) (x2 : Int32) (wo la sR' sC' row' col' bel' fac' wo' la' : List Int32), fX9_startsAt_7 700 n x1 x2 ro co sR sC row col bel fac wo la = some (sR', sC', row', col', bel', fac', wo', la') → 0 ≤ x2.toInt → x2.toInt ≤ 64 → wo.length = 384 → la.length = 384 → (sR' = sR ∧ sC' = sC ∧ row' = row ∧ col' = col ∧ bel' = bel ∧ fac' = fac ∧ wo'.length = 384 ∧ la'.length = 384) ∧ (∀ j : Nat, j < 384 → (j < 64 * x1.toInt.toNat + x2.toInt.toNat ∨ 64 * x1.toInt.toNat + 64 ≤ j) → wo'.getD j 0 = wo.getD j 0 ∧ la'.getD j 0 = la.getD j 0) ∧ (∀ k : Nat, x2.toInt.toNat ≤ k → k < 64 → wo'.getD (64 * x1.toInt.toNat + k) 0 = wo.getD k 0 ∧ la'.getD (64 * x1.toInt.toNat + k) 0 = la.getD k 0) := by
  have n1 : (1 : Int32).toInt = 1 := by decide
  have n64 : (64 : Int32).toInt = 64 := by decide
  intro n
  induction n with
  | zero =>
    intro x2 wo la sR' sC' row' col' bel' fac' wo' la' e
    exact absurd e (by intro h; cases h)
  | succ n ih =>
    intro x2 wo la sR' sC' row' col' bel' fac' wo' la' e p0 p1 l1 l2
    rw [uf_X9_startsAt_7] at e
    by_cases c : (64 : Int32) ≤ x2
    · rw [if_pos c] at e
      have d := i_le c
      have e := sm_i e
      injection e with e1 e
      injection e with e2 e
      injection e with e3 e
      injection e with e4 e
      injection e with e5 e
      injection e with e6 e
      injection e with e7 e8
      subst e1 e2 e3 e4 e5 e6 e7 e8
      exact ⟨⟨rfl, rfl, rfl, rfl, rfl, rfl, l1, l2⟩, fun j _ _ => ⟨rfl, rfl⟩, fun k k0 k1 => absurd k1 (by omega)⟩
    · rw [if_neg c] at e
      have d := i_nle c
      have e := ck_x e
      rw [nm_eq] at e
      have e := ck_x e
      rw [nm_eq] at e
      have e := ck_x e
      rw [nm_eq] at e
      have e := ck_x e
      rw [nm_eq] at e
      rw [nm_eq] at e
      have i2 := iy_e (show 0 ≤ x1.toInt by omega) b5 p0 p1
      have s1 := ps_to (l := wo) (i := (((64 : Int32) * x1) + x2)) i2 (show mm_ig wo x2 = wo.getD x2.toInt.toNat 0 from rfl)
      have s2 := ps_to (l := la) (i := (((64 : Int32) * x1) + x2)) i2 (show mm_ig la x2 = la.getD x2.toInt.toNat 0 from rfl)
      generalize hy : x2 + (1 : Int32) = y at e
      have ey := i_addE hy (by omega) (by omega)
      obtain ⟨q1, q2, q3⟩ := ih y _ _ sR' sC' row' col' bel' fac' wo' la' e (by omega) (by omega) (by rw [is_len]; exact l1) (by rw [is_len]; exact l2)
      refine ⟨q1, fun j hj hk => ?_, fun k k0 k1 => ?_⟩
      · obtain ⟨u1, u2⟩ := q2 j hj (by omega)
        rw [u1, u2, ps_ne s1 (by omega) (by omega), ps_ne s2 (by omega) (by omega)]
        exact ⟨rfl, rfl⟩
      · by_cases g : x2.toInt.toNat = k
        · obtain ⟨u1, u2⟩ := q2 (64 * x1.toInt.toNat + k) (by omega) (by omega)
          rw [← g] at u1 u2 ⊢
          rw [u1, u2, ps_at s1 (by omega), ps_at s2 (by omega)]
          exact ⟨rfl, rfl⟩
        · obtain ⟨u1, u2⟩ := q3 k (by omega) k1
          rw [u1, u2, ps_ne s1 (by omega) (by omega), ps_ne s2 (by omega) (by omega)]
          exact ⟨rfl, rfl⟩
theorem sa_r {x1 ro co : Int32} {sR sC row col bel fac wo la sR' sC' row' col' bel' fac' wo' la' : List Int32} {m : Nat} (hm : (ro * co).toInt = m) (m32 : m ≤ 32) (c0 : 1 ≤ co.toInt) (c8 : co.toInt ≤ 8) (b0 : 1 ≤ x1.toInt) (b5 : x1.toInt ≤ 5) (l1 : row.length = 192) (l2 : col.length = 192) (l3 : bel.length = 192) (l4 : fac.length = 192) (l5 : wo.length = 384) (l6 : la.length = 384) (e : fX9_startsAt 700 x1 ro co sR sC row col bel fac wo la = some (sR', sC', row', col', bel', fac', wo', la')) : (sR' = mm_is sR x1 ro ∧ sC' = mm_is sC x1 co ∧ row'.length = 192 ∧ col'.length = 192 ∧ bel'.length = 192 ∧ fac'.length = 192 ∧ wo'.length = 384 ∧ la'.length = 384) ∧ fq_w (32 * x1.toInt.toNat) m row col bel fac row' col' bel' fac' ∧ fl_w m co.toInt (32 * x1.toInt.toNat) row' col' bel' fac' ∧ fc_w (64 * x1.toInt.toNat) wo la wo' la' ∧ (∀ k : Nat, k < 64 → wo'.getD (64 * x1.toInt.toNat + k) 0 = wo.getD k 0 ∧ la'.getD (64 * x1.toInt.toNat + k) 0 = la.getD k 0) := by
  have n0 : (0 : Int32).toInt = 0 := by decide
  unfold fX9_startsAt at e
  obtain ⟨w1, w2, w3, w4, w5, w6, e1, e⟩ := mm_bd6s e
  obtain ⟨q1, q2, ⟨q3, q4, q5, q6⟩, q7, q8⟩ := li_e hm m32 c0 c8 (by omega) b5 l1 l2 l3 l4 e1
  obtain ⟨⟨u1, u2, u3, u4, u5, u6, u7, u8⟩, v2, v3⟩ := sa_7 b0 b5 700 (0 : Int32) wo la sR' sC' row' col' bel' fac' wo' la' e (by omega) (by omega) l5 l6
  subst u1 u2 u3 u4 u5 u6
  exact ⟨⟨q1, q2, q3, q4, q5, q6, u7, u8⟩, q7, q8, fun j hj hk => v2 j hj (by omega), fun k hk => v3 k (by omega) hk⟩
theorem cp_e {v_rows v_cols v_high v_wide v_folds v_wrong v_more p_rows p_cols p_high p_wide p_folds p_wrong p_more : Int32} {R C B F W A R' C' B' F' W' A' : List Int32} (l1 : R.length = 32) (l2 : C.length = 32) (l3 : B.length = 32) (l4 : F.length = 32) (l5 : W.length = 64) (l6 : A.length = 64) (k1 : R'.length = 32) (k2 : C'.length = 32) (k3 : B'.length = 32) (k4 : F'.length = 32) (k5 : W'.length = 64) (k6 : A'.length = 64) : fX5_copy 700 v_rows v_cols v_high v_wide v_folds v_wrong v_more R C B F W A p_rows p_cols p_high p_wide p_folds p_wrong p_more R' C' B' F' W' A' = some (p_rows, p_cols, p_high, p_wide, p_folds, p_wrong, p_more, R', C', B', F', W', A') := by
  have n0 : (0 : Int32).toInt = 0 := by decide
  have n32 : (32 : Int32).toInt = 32 := by decide
  have n64 : (64 : Int32).toInt = 64 := by decide
  unfold fX5_copy
  rw [ck_t (i_cok (by omega) (by omega) (by omega) (by omega) (by omega)), nm_eq, ck_t (i_cok (by omega) (by omega) (by omega) (by omega) (by omega)), nm_eq, ck_t (i_cok (by omega) (by omega) (by omega) (by omega) (by omega)), nm_eq, ck_t (i_cok (by omega) (by omega) (by omega) (by omega) (by omega)), nm_eq, ck_t (i_cok (by omega) (by omega) (by omega) (by omega) (by omega)), nm_eq, ck_t (i_cok (by omega) (by omega) (by omega) (by omega) (by omega)), nm_eq, cp_all k1 l1 n32, cp_all k2 l2 n32, cp_all k3 l3 n32, cp_all k4 l4 n32, cp_all k5 l5 n64, cp_all k6 l6 n64]
end
section
/-! Geometry: fold -/
theorem ba_12 {x1 x2 x5 rows cols hg wd folds : Int32} {R C B F bend T : List Int32} {sc : Int32} {stp : List Int32} {r h' w' fo' wr' mo' : Int32} {R' C' B' F' wo' la' be' T' : List Int32} {sk' : Int32} {st' : List Int32} : ∀ (n : Nat) (x6 wrong more : Int32) (worn last : List Int32) (sk : Int32) (st : List Int32), fX5_bendAndTurn_12 700 n x1 x2 x5 x6 rows cols hg wd folds wrong more R C B F worn last bend T sc sk stp st = some (r, h', w', fo', wr', mo', R', C', B', F', wo', la', be', T', sk', st') → r = x5 ∧ fo' = folds + (1 : Int32) ∧ fX5_turn 700 x1 x2 rows cols hg wd R C B F T = some (h', w', R', C', B', F', T') := by
  intro n
  induction n with
  | zero =>
    intro x6 wrong more worn last sk st e
    exact absurd e (by intro h; cases h)
  | succ n ih =>
    intro x6 wrong more worn last sk st e
    rw [uf_X5_bendAndTurn_12] at e
    obtain ⟨fl, ef, e⟩ := mm_bd1s e
    by_cases c : ((2 : Int32) * fl) ≤ x6
    · rw [if_pos c] at e
      obtain ⟨w7, w8, w9, w10, w11, w12, w13, et, e⟩ := mm_bd7s e
      rw [nm_eq] at e
      apply mm_sub16 e
      exact ⟨rfl, rfl, et⟩
    · rw [if_neg c] at e
      have e := ck_x e
      by_cases g : mm_ig bend x6 = 0
      · rw [if_pos g, uf_X5_bendAndTurn_43, nm_eq] at e
        exact ih _ _ _ _ _ _ _ e
      · rw [if_neg g] at e
        obtain ⟨w18, w19, w20, w21, w22, w23, ew, e⟩ := mm_bd6s e
        rw [uf_X5_bendAndTurn_43, nm_eq] at e
        exact ih _ _ _ _ _ _ _ e
def ok_w (x1 x2 high wide : Int32) : Prop := (0 ≤ x2.toInt ∧ x2.toInt ≤ 7) ∧ 1 ≤ x1.toInt ∧ x1.toInt < (if (4 : Int32) ≤ x2 then high else wide).toInt
theorem wa_e (x : Int32) : fX8_isWay 700 x = some (decide (0 ≤ x.toInt ∧ x.toInt ≤ 7)) := by
  have n0 : (0 : Int32).toInt = 0 := by decide
  have n8 : (8 : Int32).toInt = 8 := by decide
  unfold fX8_isWay
  by_cases c : x < 0
  · have d := i_lt c
    rw [if_pos c, decide_eq_false (by omega)]
  · have d := i_nlt c
    rw [if_neg c]
    by_cases c2 : (8 : Int32) ≤ x
    · have d2 := i_le c2
      rw [if_pos c2, decide_eq_false (by omega)]
    · have d2 := i_nle c2
      rw [if_neg c2, decide_eq_true (by omega)]
theorem hl_e (x1 x2 high wide : Int32) : fX5_hasLine 700 x1 x2 high wide = some (decide (1 ≤ x1.toInt ∧ x1.toInt < (if (4 : Int32) ≤ x2 then high else wide).toInt)) := by
  have n1 : (1 : Int32).toInt = 1 := by decide
  have hs : fX5_span 700 x2 high wide = some (if (4 : Int32) ≤ x2 then high else wide) := by
    unfold fX5_span
    by_cases c : (4 : Int32) ≤ x2
    · rw [if_pos c, if_pos c]
    · rw [if_neg c, if_neg c]
  unfold fX5_hasLine
  rw [hs]
  generalize (if (4 : Int32) ≤ x2 then high else wide) = s
  by_cases c : x1 < (1 : Int32)
  · have d := i_lt c
    rw [if_pos c, decide_eq_false (by omega)]
  · have d := i_nlt c
    rw [if_neg c, bs_1]
    by_cases c2 : s ≤ x1
    · have d2 := i_le c2
      rw [if_pos c2, decide_eq_false (by omega)]
    · have d2 := i_nle c2
      rw [if_neg c2, decide_eq_true (by omega)]
theorem il_e {lv x1 x2 high wide : Int32} {sR sC : List Int32} (k8 : sR.length = 6) (k9 : sC.length = 6) (L0 : 0 ≤ lv.toInt) (L5 : lv.toInt ≤ 5) (g1 : mm_ig sR lv = high) (g2 : mm_ig sC lv = wide) (hh : 1 ≤ high.toInt ∧ high.toInt ≤ 4) (hw : 1 ≤ wide.toInt ∧ wide.toInt ≤ 8) : fX9_isLine 700 lv x1 x2 sR sC = some (decide (1 ≤ x1.toInt ∧ x1.toInt < (if (4 : Int32) ≤ x2 then high else wide).toInt)) := by
  have n1 : (1 : Int32).toInt = 1 := by decide
  have m1 : (1 : Int64).toInt = 1 := by decide
  unfold fX9_isLine
  by_cases c : (4 : Int32) ≤ x2
  · rw [if_pos c, if_pos c, ck_t (i_inb L0 (by omega)), g1]
    unfold fX9_isLine_23
    generalize hz : high - (1 : Int32) = z
    have ez := i_subE hz (by omega) (by omega)
    rw [wn_x, bs_1, i_64, i_64, m1]
    exact congrArg some (decide_eq_decide.mpr (by omega))
  · rw [if_neg c, if_neg c, ck_t (i_inb L0 (by omega)), g2]
    unfold fX9_isLine_23
    generalize hz : wide - (1 : Int32) = z
    have ez := i_subE hz (by omega) (by omega)
    rw [wn_x, bs_1, i_64, i_64, m1]
    exact congrArg some (decide_eq_decide.mpr (by omega))
theorem fo_8 {x1 x2 rows cols hg wd folds wrong more : Int32} {R C B F worn last bend T : List Int32} {sc sk : Int32} {stp st : List Int32} {lim : Int32} {r h' w' fo' wr' mo' : Int32} {R' C' B' F' wo' la' be' T' : List Int32} {sk' : Int32} {st' : List Int32} (e : fX8_fold 700 x1 x2 rows cols hg wd folds wrong more R C B F worn last bend T sc sk stp st lim = some (r, h', w', fo', wr', mo', R', C', B', F', wo', la', be', T', sk', st')) : (¬ ok_w x1 x2 hg wd ∧ h' = hg ∧ w' = wd ∧ fo' = folds ∧ R' = R ∧ C' = C ∧ B' = B ∧ F' = F) ∨ (ok_w x1 x2 hg wd ∧ fo' = folds + (1 : Int32) ∧ fX5_turn 700 x1 x2 rows cols hg wd R C B F T = some (h', w', R', C', B', F', T')) := by
  unfold fX8_fold at e
  rw [wa_e, bs_1] at e
  by_cases c : 0 ≤ x2.toInt ∧ x2.toInt ≤ 7
  · rw [decide_eq_true c, if_neg (by decide), hl_e, bs_1] at e
    by_cases d : 1 ≤ x1.toInt ∧ x1.toInt < (if (4 : Int32) ≤ x2 then hg else wd).toInt
    · rw [decide_eq_true d, if_neg (by decide)] at e
      obtain ⟨a0, a1, a2, a3, a4, a5, a6, a7, a8, a9, a10, a11, a12, a13, a14, a15, eb, e⟩ := mm_bd16s e
      apply mm_sub16 e
      unfold fX5_bendAndTurn at eb
      obtain ⟨b0, b1, em, eb⟩ := mm_bd2s eb
      obtain ⟨q1, q2, q3⟩ := ba_12 700 _ _ _ _ _ _ _ eb
      exact Or.inr ⟨⟨c, d⟩, q2, q3⟩
    · rw [decide_eq_false d, if_pos rfl] at e
      apply mm_sub16 e
      exact Or.inl ⟨fun h => d h.2, rfl, rfl, rfl, rfl, rfl, rfl, rfl⟩
  · rw [decide_eq_false c, if_pos rfl] at e
    apply mm_sub16 e
    exact Or.inl ⟨fun h => c h.1, rfl, rfl, rfl, rfl, rfl, rfl, rfl⟩
theorem fs_9 {lv x1 x2 ro co tm ba at_ en fa op bm bw mw : Int32} {lim sR sC row col bel fac wo la tape text nam ben hi to PS : List Int32} {ba' at' en' fa' op' bm' bw' mw' : Int32} {sR' sC' row' col' bel' fac' wo' la' nam' ben' hi' to' PS' : List Int32} (e : fX9_foldsOn 700 lv x1 x2 ro co tm ba at_ en fa op bm bw mw lim sR sC row col bel fac wo la tape text nam ben hi to PS = some (ba', at', en', fa', op', bm', bw', mw', sR', sC', row', col', bel', fac', wo', la', nam', ben', hi', to', PS')) : fX9_movesAll 700 lv x1 x2 ro co sR sC row col bel fac hi to PS = some (sR', sC', row', col', bel', fac', hi', to', PS') ∧ fX9_bendsAll 700 lv x1 x2 ro co tm ba at_ en fa op bm bw mw lim row col fac wo la tape text nam ben = some (ba', at', en', fa', op', bm', bw', mw', wo', la', nam', ben') := by
  unfold fX9_foldsOn at e
  obtain ⟨a0, a1, a2, a3, a4, a5, a6, a7, a8, a9, a10, a11, eb, e⟩ := mm_bd12s e
  obtain ⟨b0, b1, b2, b3, b4, b5, b6, b7, b8, em, e⟩ := mm_bd9s e
  apply mm_sub21 e
  exact ⟨em, eb⟩
theorem fo_9 {x1 x2 ro co fd wr tm ba at_ en fa op bm bw mw hg wd : Int32} {lim sR sC row col bel fac wo la tape text nam ben hi to PS : List Int32} {r fd' wr' ba' at' en' fa' op' bm' bw' mw' : Int32} {sR' sC' row' col' bel' fac' wo' la' nam' ben' hi' to' PS' : List Int32} (k8 : sR.length = 6) (k9 : sC.length = 6) (g1 : mm_ig sR (0 : Int32) = hg) (g2 : mm_ig sC (0 : Int32) = wd) (hh : 1 ≤ hg.toInt ∧ hg.toInt ≤ 4) (hw : 1 ≤ wd.toInt ∧ wd.toInt ≤ 8) (e : fX9_fold 700 x1 x2 ro co fd wr tm ba at_ en fa op bm bw mw lim sR sC row col bel fac wo la tape text nam ben hi to PS = some (r, fd', wr', ba', at', en', fa', op', bm', bw', mw', sR', sC', row', col', bel', fac', wo', la', nam', ben', hi', to', PS')) : (¬ ok_w x1 x2 hg wd ∧ fd' = fd ∧ sR' = sR ∧ sC' = sC ∧ row' = row ∧ col' = col ∧ bel' = bel ∧ fac' = fac) ∨ (ok_w x1 x2 hg wd ∧ fd' = fd + (1 : Int32) ∧ fX9_movesAll 700 (0 : Int32) x1 x2 ro co sR sC row col bel fac hi to PS = some (sR', sC', row', col', bel', fac', hi', to', PS')) := by
  have m0 : (0 : Int64).toInt = 0 := by decide
  have m7 : (7 : Int64).toInt = 7 := by decide
  unfold fX9_fold at e
  rw [wn_x, bs_1, i_64, m0, m7] at e
  by_cases c : 0 ≤ x2.toInt ∧ x2.toInt ≤ 7
  · rw [decide_eq_true c, if_neg (by decide), il_e k8 k9 (by decide) (by decide) g1 g2 hh hw, bs_1] at e
    by_cases d : 1 ≤ x1.toInt ∧ x1.toInt < (if (4 : Int32) ≤ x2 then hg else wd).toInt
    · rw [decide_eq_true d, if_neg (by decide)] at e
      obtain ⟨a0, a1, a2, a3, a4, a5, a6, a7, a8, a9, a10, a11, a12, a13, a14, a15, a16, a17, a18, a19, a20, eb, e⟩ := mm_bd21s e
      rw [nm_eq, nm_eq] at e
      apply mm_sub24 e
      exact Or.inr ⟨⟨c, d⟩, rfl, (fs_9 eb).1⟩
    · rw [decide_eq_false d, if_pos rfl] at e
      apply mm_sub24 e
      exact Or.inl ⟨fun h => d h.2, rfl, rfl, rfl, rfl, rfl, rfl, rfl⟩
  · rw [decide_eq_false c, if_pos rfl] at e
    apply mm_sub24 e
    exact Or.inl ⟨fun h => c h.1, rfl, rfl, rfl, rfl, rfl, rfl, rfl⟩
end
section
/-! Geometry: sheet -/
theorem dn_x {x : Int32} (hx : x.toInt < 0) : (x / (10 : Int32)).toInt ≤ 0 := by
  rw [Int32.toInt_div_of_ne_right x (10 : Int32) (by decide), show (10 : Int32).toInt = 10 by decide]
  have e : x.toInt = -(-x.toInt) := by omega
  rw [e, Int.neg_tdiv]
  have k : 0 ≤ (-x.toInt).tdiv 10 := Int.tdiv_nonneg (by omega) (by omega)
  omega
def os_w (a b : Int32) : Prop := (1 ≤ a.toInt ∧ a.toInt ≤ 4) ∧ (1 ≤ b.toInt ∧ b.toInt ≤ 8)
/-- creases all new -/
def zc_w (o : Nat) (W A : List Int32) : Prop := ∀ k : Nat, k < 64 → W.getD (o + k) 0 = 0 ∧ A.getD (o + k) 0 = 0
theorem rw_8 {x1 x2 rows cols hg wd folds wrong more rows' cols' h' w' fo' wr' mo' : Int32} {R C B F W A R' C' B' F' W' A' : List Int32} {m : Nat} (hm : x1.toInt * x2.toInt = m) (m32 : m ≤ 32) (o : os_w x1 x2) (l1 : R.length = 32) (l2 : C.length = 32) (l3 : B.length = 32) (l4 : F.length = 32) (l5 : W.length = 64) (l6 : A.length = 64) (e : fX5_renew 700 x1 x2 rows cols hg wd folds wrong more R C B F W A = some (rows', cols', h', w', fo', wr', mo', R', C', B', F', W', A')) : rows' = x1 ∧ cols' = x2 ∧ h' = x1 ∧ w' = x2 ∧ fo' = 0 ∧ wr' = 0 ∧ mo' = 0 ∧ fl_w m x2.toInt 0 R' C' B' F' ∧ zc_w 0 W' A' := by
  unfold fX5_renew at e
  obtain ⟨w1, e1, e⟩ := mm_bd1s e
  obtain ⟨w3, e3, e⟩ := mm_bd1s e
  obtain ⟨w5, w6, w7, e5, e⟩ := mm_bd3s e
  obtain ⟨w9, w10, w11, w12, w13, w14, e9, e⟩ := mm_bd6s e
  obtain ⟨a1, a2⟩ := fi_e e1 (by omega)
  obtain ⟨b1, b2⟩ := fi_e e3 (by omega)
  unfold fX5_forgetLed at e5
  obtain ⟨c1, c2, c3⟩ := lo_e hm m32 o.1.1 o.1.2 o.2.1 o.2.2 l1 l2 l3 l4 e9
  apply mm_sub13 e
  apply mm_sub3 e5
  refine ⟨rfl, rfl, c1, c2, rfl, rfl, rfl, c3, fun k hk => ?_⟩
  rw [Nat.zero_add]
  exact ⟨a2 k (by omega), b2 k (by omega)⟩
theorem st_8 {x1 rows cols hg wd folds wrong more r rows' cols' h' w' fo' wr' mo' : Int32} {R C B F W A R' C' B' F' W' A' : List Int32} (l1 : R.length = 32) (l2 : C.length = 32) (l3 : B.length = 32) (l4 : F.length = 32) (l5 : W.length = 64) (l6 : A.length = 64) (e : fX8_sheet 700 x1 rows cols hg wd folds wrong more R C B F W A = some (r, rows', cols', h', w', fo', wr', mo', R', C', B', F', W', A')) : (¬ os_w (x1 / (10 : Int32)) (mm_rem x1 (10 : Int32)) ∧ r = -1 ∧ rows' = rows ∧ cols' = cols ∧ h' = hg ∧ w' = wd ∧ fo' = folds ∧ wr' = wrong ∧ mo' = more ∧ R' = R ∧ C' = C ∧ B' = B ∧ F' = F ∧ W' = W ∧ A' = A) ∨ (os_w (x1 / (10 : Int32)) (mm_rem x1 (10 : Int32)) ∧ r = ((10 : Int32) * rows) + cols ∧ rows' = x1 / (10 : Int32) ∧ cols' = mm_rem x1 (10 : Int32) ∧ h' = x1 / (10 : Int32) ∧ w' = mm_rem x1 (10 : Int32) ∧ fo' = 0 ∧ wr' = 0 ∧ mo' = 0 ∧ fl_w ((x1 / (10 : Int32)).toInt * (mm_rem x1 (10 : Int32)).toInt).toNat (mm_rem x1 (10 : Int32)).toInt 0 R' C' B' F' ∧ zc_w 0 W' A') := by
  have n1 : (1 : Int32).toInt = 1 := by decide
  have n4 : (4 : Int32).toInt = 4 := by decide
  have n8 : (8 : Int32).toInt = 8 := by decide
  unfold fX8_sheet at e
  have e := ck_x e
  rw [nm_eq] at e
  have e := ck_x e
  rw [nm_eq] at e
  generalize x1 / (10 : Int32) = a at e ⊢
  generalize mm_rem x1 (10 : Int32) = b at e ⊢
  by_cases c1 : a < (1 : Int32)
  · have d1 := i_lt c1
    rw [if_pos c1] at e
    apply mm_sub14 e
    exact Or.inl ⟨fun h => absurd h.1.1 (by omega), rfl, rfl, rfl, rfl, rfl, rfl, rfl, rfl, rfl, rfl, rfl, rfl, rfl, rfl⟩
  · have d1 := i_nlt c1
    rw [if_neg c1] at e
    by_cases c2 : (4 : Int32) < a
    · have d2 := i_lt c2
      rw [if_pos c2] at e
      apply mm_sub14 e
      exact Or.inl ⟨fun h => absurd h.1.2 (by omega), rfl, rfl, rfl, rfl, rfl, rfl, rfl, rfl, rfl, rfl, rfl, rfl, rfl, rfl⟩
    · have d2 := i_nlt c2
      rw [if_neg c2] at e
      by_cases c3 : b < (1 : Int32)
      · have d3 := i_lt c3
        rw [if_pos c3] at e
        apply mm_sub14 e
        exact Or.inl ⟨fun h => absurd h.2.1 (by omega), rfl, rfl, rfl, rfl, rfl, rfl, rfl, rfl, rfl, rfl, rfl, rfl, rfl, rfl⟩
      · have d3 := i_nlt c3
        rw [if_neg c3] at e
        by_cases c4 : b ≤ (8 : Int32)
        · have d4 := i_le c4
          rw [if_pos c4, nm_eq] at e
          obtain ⟨w10, w11, w12, w13, w14, w15, w16, w17, w18, w19, w20, w21, w22, er, e⟩ := mm_bd13s e
          have o : os_w a b := ⟨⟨by omega, by omega⟩, by omega, by omega⟩
          have hf := i_fl o.1.1 o.1.2 o.2.1 o.2.2
          obtain ⟨q1, q2, q3, q4, q5, q6, q7, q8, q9⟩ := rw_8 (m := (a.toInt * b.toInt).toNat) (by omega) (by omega) o l1 l2 l3 l4 l5 l6 er
          apply mm_sub14 e
          exact Or.inr ⟨o, rfl, q1, q2, q3, q4, q5, q6, q7, q8, q9⟩
        · have d4 := i_nle c4
          rw [if_neg c4] at e
          apply mm_sub14 e
          exact Or.inl ⟨fun h => absurd h.2.2 (by omega), rfl, rfl, rfl, rfl, rfl, rfl, rfl, rfl, rfl, rfl, rfl, rfl, rfl, rfl⟩
theorem in_17 {ro co fd wr : Int32} {sR sC row col bel fac : List Int32} : ∀ (n : Nat) (x3 : Int32) (wo la : List Int32) (ro' co' fd' wr' : Int32) (sR' sC' row' col' bel' fac' wo' la' : List Int32), fX9_isNew_17 700 n x3 ro co fd wr sR sC row col bel fac wo la = some (ro', co', fd', wr', sR', sC', row', col', bel', fac', wo', la') → 0 ≤ x3.toInt → x3.toInt ≤ 64 → wo.length = 384 → la.length = 384 → (∀ k : Nat, k < x3.toInt.toNat → wo.getD k 0 = 0 ∧ la.getD k 0 = 0) → (ro' = ro ∧ co' = co ∧ fd' = 0 ∧ wr' = 0 ∧ sR' = sR ∧ sC' = sC ∧ row' = row ∧ col' = col ∧ bel' = bel ∧ fac' = fac) ∧ zc_w 0 wo' la' ∧ (∀ j : Nat, j < 384 → 64 ≤ j → wo'.getD j 0 = wo.getD j 0 ∧ la'.getD j 0 = la.getD j 0) := by
  have n1 : (1 : Int32).toInt = 1 := by decide
  have n64 : (64 : Int32).toInt = 64 := by decide
  intro n
  induction n with
  | zero =>
    intro x3 wo la ro' co' fd' wr' sR' sC' row' col' bel' fac' wo' la' e
    exact absurd e (by intro h; cases h)
  | succ n ih =>
    intro x3 wo la ro' co' fd' wr' sR' sC' row' col' bel' fac' wo' la' e p0 p1 l1 l2 H
    rw [uf_X9_isNew_17] at e
    by_cases c : (64 : Int32) ≤ x3
    · rw [if_pos c] at e
      have d := i_le c
      apply mm_sub12 e
      refine ⟨⟨rfl, rfl, rfl, rfl, rfl, rfl, rfl, rfl, rfl, rfl⟩, fun k hk => ?_, fun j _ _ => ⟨rfl, rfl⟩⟩
      rw [Nat.zero_add]
      exact H k (by omega)
    · rw [if_neg c] at e
      have d := i_nle c
      have e := ck_x e
      rw [nm_eq] at e
      have e := ck_x e
      rw [nm_eq, nm_eq] at e
      have s1 := ps_is wo x3 (0 : Int32)
      have s2 := ps_is la x3 (0 : Int32)
      generalize hy : x3 + (1 : Int32) = y at e
      have ey := i_addE hy (by omega) (by omega)
      obtain ⟨q1, q2, q3⟩ := ih y _ _ ro' co' fd' wr' sR' sC' row' col' bel' fac' wo' la' e (by omega) (by omega) (by rw [is_len]; exact l1) (by rw [is_len]; exact l2) (fun k hk => by
        by_cases g : x3.toInt.toNat = k
        · rw [← g, ps_at s1 (by omega), ps_at s2 (by omega)]
          exact ⟨rfl, rfl⟩
        · rw [ps_ne s1 (by omega) g, ps_ne s2 (by omega) g]
          exact H k (by omega))
      refine ⟨q1, q2, fun j hj hk => ?_⟩
      obtain ⟨u1, u2⟩ := q3 j hj hk
      rw [u1, u2, ps_ne s1 (by omega) (by omega), ps_ne s2 (by omega) (by omega)]
      exact ⟨rfl, rfl⟩
theorem st_9 {x1 ro co fd wr r ro' co' fd' wr' : Int32} {sR sC row col bel fac wo la sR' sC' row' col' bel' fac' wo' la' : List Int32} (l1 : row.length = 192) (l2 : col.length = 192) (l3 : bel.length = 192) (l4 : fac.length = 192) (l5 : wo.length = 384) (l6 : la.length = 384) (e : fX9_sheet 700 x1 ro co fd wr sR sC row col bel fac wo la = some (r, ro', co', fd', wr', sR', sC', row', col', bel', fac', wo', la')) : (¬ os_w (x1 / (10 : Int32)) (mm_rem x1 (10 : Int32)) ∧ r = -1 ∧ ro' = ro ∧ co' = co ∧ fd' = fd ∧ wr' = wr ∧ sR' = sR ∧ sC' = sC ∧ row' = row ∧ col' = col ∧ bel' = bel ∧ fac' = fac ∧ wo' = wo ∧ la' = la) ∨ (os_w (x1 / (10 : Int32)) (mm_rem x1 (10 : Int32)) ∧ r = ((10 : Int32) * ro) + co ∧ ro' = x1 / (10 : Int32) ∧ co' = mm_rem x1 (10 : Int32) ∧ fd' = 0 ∧ wr' = 0 ∧ sR' = mm_is sR (0 : Int32) (x1 / (10 : Int32)) ∧ sC' = mm_is sC (0 : Int32) (mm_rem x1 (10 : Int32)) ∧ fq_w 0 32 row col bel fac row' col' bel' fac' ∧ fl_w ((x1 / (10 : Int32)).toInt * (mm_rem x1 (10 : Int32)).toInt).toNat (mm_rem x1 (10 : Int32)).toInt 0 row' col' bel' fac' ∧ zc_w 0 wo' la' ∧ (∀ j : Nat, j < 384 → 64 ≤ j → wo'.getD j 0 = wo.getD j 0 ∧ la'.getD j 0 = la.getD j 0)) := by
  have n0 : (0 : Int32).toInt = 0 := by decide
  have z0 : (0 : Int32).toInt.toNat = 0 := by decide
  have m1 : (1 : Int64).toInt = 1 := by decide
  have m4 : (4 : Int64).toInt = 4 := by decide
  have m8 : (8 : Int64).toInt = 8 := by decide
  unfold fX9_sheet at e
  by_cases c : x1 < 0
  · have d := i_lt c
    have dn := dn_x (show x1.toInt < 0 by omega)
    rw [if_pos c] at e
    apply mm_sub13 e
    exact Or.inl ⟨fun h => absurd h.1.1 (by omega), rfl, rfl, rfl, rfl, rfl, rfl, rfl, rfl, rfl, rfl, rfl, rfl, rfl⟩
  · rw [if_neg c] at e
    have e := ck_x e
    rw [wn_x, bs_1, i_64, m1, m4] at e
    generalize x1 / (10 : Int32) = a at e ⊢
    generalize mm_rem x1 (10 : Int32) = b at e ⊢
    by_cases c1 : 1 ≤ a.toInt ∧ a.toInt ≤ 4
    · rw [decide_eq_true c1, if_neg (by decide)] at e
      have e := ck_x e
      rw [wn_x, bs_1, i_64, m1, m8] at e
      by_cases c2 : 1 ≤ b.toInt ∧ b.toInt ≤ 8
      · rw [decide_eq_true c2, if_neg (by decide), nm_eq] at e
        have e := ck_x (ck_x e)
        obtain ⟨w13, w14, w15, w16, w17, w18, w19, w20, w21, w22, w23, w24, en, e⟩ := mm_bd12s e
        apply mm_sub13 e
        unfold fX9_isNew at en
        obtain ⟨u1, u2, u3, u4, u5, u6, el, en⟩ := mm_bd6s en
        have hf := i_fl c1.1 c1.2 c2.1 c2.2
        obtain ⟨q1, q2, ⟨q3, q4, q5, q6⟩, q7, q8⟩ := li_e (m := (a.toInt * b.toInt).toNat) (by omega) (by omega) c2.1 c2.2 (by omega) (by omega) l1 l2 l3 l4 el
        obtain ⟨⟨v1, v2, v3, v4, v5, v6, v7, v8, v9, v10⟩, v11, v12⟩ := in_17 700 (0 : Int32) wo la _ _ _ _ _ _ _ _ _ _ _ _ en (by omega) (by omega) l5 l6 (fun k hk => absurd hk (by omega))
        rw [z0, Nat.mul_zero] at q7 q8
        subst v5 v6 v7 v8 v9 v10
        exact Or.inr ⟨⟨c1, c2⟩, rfl, v1, v2, v3, v4, q1, q2, fun j hj hk => q7 j hj (by omega), q8, v11, v12⟩
      · rw [decide_eq_false c2, if_pos rfl] at e
        apply mm_sub13 e
        exact Or.inl ⟨fun h => c2 h.2, rfl, rfl, rfl, rfl, rfl, rfl, rfl, rfl, rfl, rfl, rfl, rfl, rfl⟩
    · rw [decide_eq_false c1, if_pos rfl] at e
      apply mm_sub13 e
      exact Or.inl ⟨fun h => c1 h.1, rfl, rfl, rfl, rfl, rfl, rfl, rfl, rfl, rfl, rfl, rfl, rfl, rfl⟩
end
section
/-! Geometry: the relation of class and reference -/
theorem fr_n {l l' : List Int32} {a b : Int} (h : fr l l' a b) (hl : l.length ≤ 1000) {k : Nat} (hk : k < l.length) (ho : (k : Int) < a ∨ b ≤ (k : Int)) : l'.getD k 0 = l.getD k 0 := by
  have e : (Int32.ofNat k).toInt = (k : Int) := Int32.toInt_ofNat_of_lt (by omega)
  have q := h.2 (Int32.ofNat k) (by omega) (by omega) (by omega)
  rw [ge_ig, ge_ig, e, Int.toNat_natCast] at q
  exact q
theorem zn_n {l : List Int32} {b lo hi : Int} (h : zn l 0 b lo hi) (hl : l.length ≤ 1000) {k : Nat} (hk : k < l.length) (hb : (k : Int) < b) : lo ≤ (l.getD k 0).toInt ∧ (l.getD k 0).toInt < hi := by
  have e : (Int32.ofNat k).toInt = (k : Int) := Int32.toInt_ofNat_of_lt (by omega)
  have q := h (Int32.ofNat k) (by omega) (by omega) (by omega) (by omega)
  rw [ge_ig, e, Int.toNat_natCast] at q
  exact q
/-- a sheet of the class and a level of the reference alike, by where the fields lie -/
def lg_w (lv : Nat) (rows cols high wide : Int32) (R C B F sR sC row col bel fac : List Int32) : Prop := sR.getD lv 0 = high ∧ sC.getD lv 0 = wide ∧ gx_w (rows.toInt * cols.toInt).toNat (32 * lv) R C B F row col bel fac
theorem lg_t {lv : Nat} {rows cols high wide : Int32} {R C B F sR sC row col bel fac sR' sC' row' col' bel' fac' : List Int32} (h : lg_w lv rows cols high wide R C B F sR sC row col bel fac) (m32 : rows.toInt * cols.toInt ≤ 32) (h1 : sR'.getD lv 0 = sR.getD lv 0) (h2 : sC'.getD lv 0 = sC.getD lv 0) (h3 : ∀ j : Nat, 32 * lv ≤ j → j < 32 * lv + 32 → row'.getD j 0 = row.getD j 0 ∧ col'.getD j 0 = col.getD j 0 ∧ bel'.getD j 0 = bel.getD j 0 ∧ fac'.getD j 0 = fac.getD j 0) : lg_w lv rows cols high wide R C B F sR' sC' row' col' bel' fac' := by
  obtain ⟨a1, a2, a3⟩ := h
  refine ⟨by rw [h1, a1], by rw [h2, a2], fun k hk => ?_⟩
  obtain ⟨b1, b2, b3, b4⟩ := h3 (32 * lv + k) (by omega) (by omega)
  obtain ⟨c1, c2, c3, c4⟩ := a3 k hk
  exact ⟨by rw [b1, c1], by rw [b2, c2], by rw [b3, c3], by rw [b4, c4]⟩
/-- the six rows of the levels 1 to 4 written, the others as they were -/
def f6_w (sR sC row col bel fac sR' sC' row' col' bel' fac' : List Int32) : Prop := fr sR sR' 1 5 ∧ fr sC sC' 1 5 ∧ fr row row' 32 160 ∧ fr col col' 32 160 ∧ fr bel bel' 32 160 ∧ fr fac fac' 32 160
theorem lg_6 {lv : Nat} {rows cols high wide : Int32} {R C B F sR sC row col bel fac sR' sC' row' col' bel' fac' : List Int32} (hl : lv = 0 ∨ lv = 5) (k1 : sR.length = 6) (k2 : sC.length = 6) (k3 : row.length = 192) (k4 : col.length = 192) (k5 : bel.length = 192) (k6 : fac.length = 192) (m32 : rows.toInt * cols.toInt ≤ 32) (f : f6_w sR sC row col bel fac sR' sC' row' col' bel' fac') (h : lg_w lv rows cols high wide R C B F sR sC row col bel fac) : lg_w lv rows cols high wide R C B F sR' sC' row' col' bel' fac' := by
  obtain ⟨f1, f2, f3, f4, f5, f6⟩ := f
  refine lg_t h m32 (fr_n f1 (by omega) (by omega) (by omega)) (fr_n f2 (by omega) (by omega) (by omega)) (fun j j0 j1 => ?_)
  exact ⟨fr_n f3 (by omega) (by omega) (by omega), fr_n f4 (by omega) (by omega) (by omega), fr_n f5 (by omega) (by omega) (by omega), fr_n f6 (by omega) (by omega) (by omega)⟩
def rl_ge (v_now_rows : Int32) (v_now_cols : Int32) (v_now_high : Int32) (v_now_wide : Int32) (v_now_folds : Int32) (v_now_rowOf : List Int32) (v_now_colOf : List Int32) (v_now_below : List Int32) (v_now_face : List Int32) (v_hasImage : Bool) (v_kept_rows : Int32) (v_kept_cols : Int32) (v_kept_high : Int32) (v_kept_wide : Int32) (v_kept_folds : Int32) (v_kept_rowOf : List Int32) (v_kept_colOf : List Int32) (v_kept_below : List Int32) (v_kept_face : List Int32) (m_rowsOf : Int32) (m_columnsOf : Int32) (m_folded : Int32) (m_isKept : Bool) (m_imageRows : Int32) (m_imageColumns : Int32) (m_imageFolded : Int32) (m_shapeRows : List Int32) (m_shapeColumns : List Int32) (m_row : List Int32) (m_column : List Int32) (m_below : List Int32) (m_face : List Int32) : Prop := m_rowsOf = v_now_rows ∧ m_columnsOf = v_now_cols ∧ m_folded = v_now_folds ∧ m_isKept = v_hasImage ∧ lg_w 0 v_now_rows v_now_cols v_now_high v_now_wide v_now_rowOf v_now_colOf v_now_below v_now_face m_shapeRows m_shapeColumns m_row m_column m_below m_face ∧ (v_hasImage = true → m_imageRows = v_kept_rows ∧ m_imageColumns = v_kept_cols ∧ m_imageFolded = v_kept_folds ∧ lg_w 5 v_kept_rows v_kept_cols v_kept_high v_kept_wide v_kept_rowOf v_kept_colOf v_kept_below v_kept_face m_shapeRows m_shapeColumns m_row m_column m_below m_face)
def gx_b (m o : Nat) (R C B F row col bel fac : List Int32) : Bool := (List.range m).all (fun k => decide (row.getD (o + k) 0 = R.getD k 0 ∧ col.getD (o + k) 0 = C.getD k 0 ∧ bel.getD (o + k) 0 = B.getD k 0 ∧ fac.getD (o + k) 0 = F.getD k 0))
theorem gx_of {m o : Nat} {R C B F row col bel fac : List Int32} (h : gx_b m o R C B F row col bel fac = true) : gx_w m o R C B F row col bel fac := fun k hk => of_decide_eq_true (List.all_eq_true.mp h k (List.mem_range.mpr hk))
theorem nw_ge : rl_ge 2 4 2 4 0 z5_rowOf z5_colOf (mm_zs 32) (mm_zs 32) false 2 4 2 4 0 z5_rowOf z5_colOf (mm_zs 32) (mm_zs 32) 2 4 0 false 0 0 0 z9_shapeRows z9_shapeColumns z9_row z9_column (mm_zs 192) (mm_zs 192) := ⟨rfl, rfl, rfl, rfl, ⟨by decide +kernel, by decide +kernel, gx_of (by decide +kernel)⟩, fun h => absurd h (by decide)⟩
end
section
/-! Geometry: where, shape -/
theorem hf_e (x1 rows cols : Int32) : fX5_hasField 700 x1 rows cols = some (decide (0 ≤ x1.toInt ∧ x1.toInt < (rows * cols).toInt)) := by
  have n0 : (0 : Int32).toInt = 0 := by decide
  unfold fX5_hasField fX5_fields
  by_cases c : x1 < 0
  · have d := i_lt c
    rw [if_pos c, decide_eq_false (by omega)]
  · have d := i_nlt c
    rw [if_neg c, bs_1]
    by_cases c2 : rows * cols ≤ x1
    · have d2 := i_le c2
      rw [if_pos c2, decide_eq_false (by omega)]
    · have d2 := i_nle c2
      rw [if_neg c2, decide_eq_true (by omega)]
theorem ff_e {x1 ro co : Int32} (h : 1 ≤ (ro * co).toInt) : fX9_isField 700 x1 ro co = some (decide (0 ≤ x1.toInt ∧ x1.toInt < (ro * co).toInt)) := by
  have m0 : (0 : Int64).toInt = 0 := by decide
  have n1 : (1 : Int32).toInt = 1 := by decide
  have hb : (ro * co).toInt < 2147483648 := Int32.toInt_lt _
  unfold fX9_isField fX9_fields
  rw [bs_1]
  generalize hz : (ro * co) - (1 : Int32) = z
  have ez := i_subE hz (by omega) (by omega)
  rw [wn_x, bs_1, i_64, i_64, m0]
  exact congrArg some (decide_eq_decide.mpr (by omega))
/-- what where answers of a field -/
def wv_w (x2 r c b f : Int32) : Int32 := if x2 = 0 then r else if x2 = 1 then c else if x2 = 2 then b else if x2 = 3 then f else -1
theorem pw_e {x1 x2 rows cols r : Int32} {R C B F : List Int32} (e : fX5_placeOf 700 x1 x2 rows cols R C B F = some r) : r = if 0 ≤ x1.toInt ∧ x1.toInt < (rows * cols).toInt then wv_w x2 (R.getD x1.toInt.toNat 0) (C.getD x1.toInt.toNat 0) (B.getD x1.toInt.toNat 0) (F.getD x1.toInt.toNat 0) else -1 := by
  unfold fX5_placeOf at e
  rw [hf_e, bs_1] at e
  by_cases c : 0 ≤ x1.toInt ∧ x1.toInt < (rows * cols).toInt
  · rw [decide_eq_true c, if_neg (by decide)] at e
    rw [if_pos c]
    unfold wv_w
    by_cases c0 : x2 = 0
    · rw [if_pos c0] at e ⊢
      exact (sm_i (ck_x e)).symm
    · rw [if_neg c0] at e ⊢
      by_cases c1 : x2 = 1
      · rw [if_pos c1] at e ⊢
        exact (sm_i (ck_x e)).symm
      · rw [if_neg c1] at e ⊢
        by_cases c2 : x2 = 2
        · rw [if_pos c2] at e ⊢
          exact (sm_i (ck_x e)).symm
        · rw [if_neg c2] at e ⊢
          by_cases c3 : x2 = 3
          · rw [if_pos c3] at e ⊢
            exact (sm_i (ck_x e)).symm
          · rw [if_neg c3] at e ⊢
            exact (sm_i e).symm
  · rw [decide_eq_false c, if_pos rfl] at e
    rw [if_neg c]
    exact (sm_i e).symm
theorem wo_e {lv x1 x2 r : Int32} {row col bel fac : List Int32} (h : 0 ≤ x2.toInt ∧ x2.toInt ≤ 3) (e : fX9_whereOf 700 lv x1 x2 row col bel fac = some r) : r = wv_w x2 (row.getD (((32 : Int32) * lv) + x1).toInt.toNat 0) (col.getD (((32 : Int32) * lv) + x1).toInt.toNat 0) (bel.getD (((32 : Int32) * lv) + x1).toInt.toNat 0) (fac.getD (((32 : Int32) * lv) + x1).toInt.toNat 0) := by
  have n0 : (0 : Int32).toInt = 0 := by decide
  have n1 : (1 : Int32).toInt = 1 := by decide
  have n2 : (2 : Int32).toInt = 2 := by decide
  have n3 : (3 : Int32).toInt = 3 := by decide
  unfold fX9_whereOf at e
  rw [nm_eq] at e
  unfold wv_w
  by_cases c0 : x2 = 0
  · rw [if_pos c0] at e ⊢
    exact (sm_i (ck_x e)).symm
  · rw [if_neg c0] at e ⊢
    have d0 := i_ne c0
    by_cases c1 : x2 = 1
    · rw [if_pos c1] at e ⊢
      exact (sm_i (ck_x e)).symm
    · rw [if_neg c1] at e ⊢
      have d1 := i_ne c1
      by_cases c2 : x2 = 2
      · rw [if_pos c2] at e ⊢
        exact (sm_i (ck_x e)).symm
      · rw [if_neg c2] at e ⊢
        have d2 := i_ne c2
        have c3 : x2 = 3 := Int32.toInt_inj.mp (by omega)
        rw [if_pos c3]
        exact (sm_i (ck_x e)).symm
theorem wv_o {x2 r c b f : Int32} (h : ¬ (0 ≤ x2.toInt ∧ x2.toInt ≤ 3)) : wv_w x2 r c b f = -1 := by
  unfold wv_w
  rw [if_neg (fun k => h (by rw [k]; decide)), if_neg (fun k => h (by rw [k]; decide)), if_neg (fun k => h (by rw [k]; decide)), if_neg (fun k => h (by rw [k]; decide))]
theorem hp_4 {rows cols ro co x : Int32} {sR sC B bel : List Int32} {m : Nat} (hm : (rows * cols).toInt = m) (hm9 : (ro * co).toInt = m) (m32 : m ≤ 32) (H : ∀ k : Nat, k < m → bel.getD k 0 = B.getD k 0) : ∀ (n n' : Nat) (x1 x2 r8 : Int32) (r9 : Int32), fX5_highestPile_4 700 n x1 x2 rows cols B = some r8 → fX9_shape_4 700 n' x x1 x2 ro co sR sC bel = some r9 → 0 ≤ x2.toInt → r9 = if x = 0 then mm_ig sR (0 : Int32) else if x = 1 then mm_ig sC (0 : Int32) else if x = 2 then r8 else -1 := by
  have n1 : (1 : Int32).toInt = 1 := by decide
  intro n
  induction n with
  | zero =>
    intro n' x1 x2 r8 r9 e
    exact absurd e (by intro h; cases h)
  | succ n ih =>
    intro n' x1 x2 r8 r9 e8 e9 p0
    cases n' with
    | zero => exact absurd e9 (by intro h; cases h)
    | succ n' =>
      rw [uf_X5_highestPile_4] at e8
      rw [uf_X9_shape_4] at e9
      obtain ⟨f8, ef8, e8⟩ := mm_bd1s e8
      obtain ⟨f9, ef9, e9⟩ := mm_bd1s e9
      have h8 : rows * cols = f8 := sm_i ef8
      have h9 : ro * co = f9 := sm_i ef9
      subst h8
      subst h9
      by_cases c : rows * cols ≤ x2
      · have d := i_le c
        have c9 : ro * co ≤ x2 := Int32.le_iff_toInt_le.mpr (by omega)
        rw [if_pos c] at e8
        rw [if_pos c9] at e9
        have e8 := sm_i e8
        subst e8
        by_cases c0 : x = 0
        · rw [if_pos c0] at e9 ⊢
          exact (sm_i (ck_x e9)).symm
        · rw [if_neg c0] at e9 ⊢
          by_cases c1 : x = 1
          · rw [if_pos c1] at e9 ⊢
            exact (sm_i (ck_x e9)).symm
          · rw [if_neg c1] at e9 ⊢
            by_cases c2 : x = 2
            · rw [if_pos c2] at e9 ⊢
              exact (sm_i e9).symm
            · rw [if_neg c2] at e9 ⊢
              exact (sm_i e9).symm
      · have d := i_nle c
        have c9 : ¬ ro * co ≤ x2 := fun k => absurd (i_le k) (by omega)
        rw [if_neg c] at e8
        rw [if_neg c9] at e9
        have e8 := ck_x e8
        rw [nm_eq, nm_eq] at e8
        have e9 := ck_x e9
        have hb : mm_ig bel x2 = mm_ig B x2 := H x2.toInt.toNat (by omega)
        rw [hb] at e9
        have e9' : fX9_shape_36 700 (fX9_shape_4 700 n') x x2 (mm_max x1 (mm_ig B x2 + (1 : Int32))) ro co sR sC bel = some r9 := by
          unfold mm_max
          by_cases g : (mm_ig B x2 + (1 : Int32)) ≤ x1
          · rw [if_pos g] at e9
            rw [if_neg (Int32.not_lt.mpr g)]
            exact e9
          · rw [if_neg g] at e9
            rw [if_pos (Int32.not_le.mp g)]
            exact ck_x e9
        rw [uf_X9_shape_36, nm_eq] at e9'
        generalize hy : x2 + (1 : Int32) = y at e8 e9'
        have ey := i_addE hy (by omega) (by omega)
        exact ih n' _ y r8 r9 e8 e9' (by omega)
theorem rs_where_ge {x1 : Int32} {x2 : Int32} {v_now_rows : Int32} {v_now_cols : Int32} {v_now_rowOf : List Int32} {v_now_colOf : List Int32} {v_now_below : List Int32} {v_now_face : List Int32} {v_now_high : Int32} {v_now_wide : Int32} {v_now_worn : List Int32} {v_now_last : List Int32} {v_now_bend : List Int32} {v_now_tall : List Int32} {v_now_folds : Int32} {v_hasImage : Bool} {v_kept_rows : Int32} {v_kept_cols : Int32} {v_kept_high : Int32} {v_kept_wide : Int32} {v_kept_folds : Int32} {v_kept_rowOf : List Int32} {v_kept_colOf : List Int32} {v_kept_below : List Int32} {v_kept_face : List Int32} {m_rowsOf : Int32} {m_columnsOf : Int32} {m_row : List Int32} {m_column : List Int32} {m_below : List Int32} {m_face : List Int32} {m_isKept : Bool} {m_imageRows : Int32} {m_imageColumns : Int32} {m_shapeRows : List Int32} {m_shapeColumns : List Int32} {m_worn : List Int32} {m_lastBend : List Int32} {m_folded : Int32} {m_imageFolded : Int32} (g8_0 : gi_sh v_now_rows v_now_cols v_now_high v_now_wide v_now_rowOf v_now_colOf v_now_below v_now_face v_now_worn v_now_last v_now_bend v_now_tall) (g9_0 : gm_sh m_rowsOf m_columnsOf m_isKept m_imageRows m_imageColumns m_shapeRows m_shapeColumns m_row m_column m_below m_face m_worn m_lastBend) (hr_0 : rl_ge v_now_rows v_now_cols v_now_high v_now_wide v_now_folds v_now_rowOf v_now_colOf v_now_below v_now_face v_hasImage v_kept_rows v_kept_cols v_kept_high v_kept_wide v_kept_folds v_kept_rowOf v_kept_colOf v_kept_below v_kept_face m_rowsOf m_columnsOf m_folded m_isKept m_imageRows m_imageColumns m_imageFolded m_shapeRows m_shapeColumns m_row m_column m_below m_face) : ∃ (r : Int32), fX8_where 700 x1 x2 v_now_rows v_now_cols v_now_rowOf v_now_colOf v_now_below v_now_face = some r ∧ fX9_where 700 x1 x2 m_rowsOf m_columnsOf m_row m_column m_below m_face = some r ∧ rl_ge v_now_rows v_now_cols v_now_high v_now_wide v_now_folds v_now_rowOf v_now_colOf v_now_below v_now_face v_hasImage v_kept_rows v_kept_cols v_kept_high v_kept_wide v_kept_folds v_kept_rowOf v_kept_colOf v_kept_below v_kept_face m_rowsOf m_columnsOf m_folded m_isKept m_imageRows m_imageColumns m_imageFolded m_shapeRows m_shapeColumns m_row m_column m_below m_face := by
  obtain ⟨r8, e8, -⟩ := st8_where (x1 := x1) (x2 := x2)  g8_0
  obtain ⟨r9, e9, -⟩ := st9_where (x1 := x1) (x2 := x2)  g9_0
  obtain ⟨a0, a1, a2, a3, a4, a5, a6, a7, a8, a9, a10, a11, a12, a13, a14, a15, a16, a17⟩ := id g8_0
  obtain ⟨z0, z1, z2, z3, z4, z5, z6, z7, z8, z9, z10, z11, z12, z13⟩ := id g9_0
  have n0 : (0 : Int32).toInt = 0 := by decide
  have n5 : (5 : Int32).toInt = 5 := by decide
  have y0 : (0 : Int32).toInt.toNat = 0 := by decide
  have y5 : (5 : Int32).toInt.toNat = 5 := by decide
  obtain ⟨b1, b2, b3, b4, b5, b6⟩ := id hr_0
  have hf := i_fl z0 z1 z2 z3
  obtain ⟨l1, l2, l3⟩ := id b5
  have m0 : (0 : Int64).toInt = 0 := by decide
  have m3 : (3 : Int64).toInt = 3 := by decide
  have er : r9 = r8 := by
    have f8 := e8
    have f9 := e9
    unfold fX8_where at f8
    obtain ⟨u, eu, f8⟩ := mm_bd1s f8
    have hu := sm_i f8
    subst hu
    have q8 := pw_e eu
    unfold fX9_where at f9
    rw [ff_e (by omega), bs_1, b1, b2] at f9
    rw [q8]
    by_cases c : 0 ≤ x1.toInt ∧ x1.toInt < (v_now_rows * v_now_cols).toInt
    · rw [decide_eq_true c, if_neg (by decide), wn_x, bs_1, i_64, m0, m3] at f9
      rw [if_pos c]
      by_cases d : 0 ≤ x2.toInt ∧ x2.toInt ≤ 3
      · rw [decide_eq_true d, if_neg (by decide)] at f9
        obtain ⟨v, ev, f9⟩ := mm_bd1s f9
        have hv := sm_i f9
        subst hv
        have q9 := wo_e d ev
        rw [b1, b2] at hf
        rw [ix_e (by omega) (by omega) c.1 (by omega), y0] at q9
        obtain ⟨v1, v2, v3, v4⟩ := l3 x1.toInt.toNat (by omega)
        rw [v1, v2, v3, v4] at q9
        exact q9
      · rw [decide_eq_false d, if_pos rfl] at f9
        rw [wv_o d]
        exact (sm_i f9).symm
    · rw [decide_eq_false c, if_pos rfl] at f9
      rw [if_neg c]
      exact (sm_i f9).symm
  subst er
  exact ⟨_, e8, e9, hr_0⟩
theorem rs_shape_ge {x1 : Int32} {v_now_rows : Int32} {v_now_cols : Int32} {v_now_high : Int32} {v_now_wide : Int32} {v_now_below : List Int32} {v_now_rowOf : List Int32} {v_now_colOf : List Int32} {v_now_face : List Int32} {v_now_worn : List Int32} {v_now_last : List Int32} {v_now_bend : List Int32} {v_now_tall : List Int32} {v_now_folds : Int32} {v_hasImage : Bool} {v_kept_rows : Int32} {v_kept_cols : Int32} {v_kept_high : Int32} {v_kept_wide : Int32} {v_kept_folds : Int32} {v_kept_rowOf : List Int32} {v_kept_colOf : List Int32} {v_kept_below : List Int32} {v_kept_face : List Int32} {m_rowsOf : Int32} {m_columnsOf : Int32} {m_shapeRows : List Int32} {m_shapeColumns : List Int32} {m_below : List Int32} {m_isKept : Bool} {m_imageRows : Int32} {m_imageColumns : Int32} {m_row : List Int32} {m_column : List Int32} {m_face : List Int32} {m_worn : List Int32} {m_lastBend : List Int32} {m_folded : Int32} {m_imageFolded : Int32} (g8_0 : gi_sh v_now_rows v_now_cols v_now_high v_now_wide v_now_rowOf v_now_colOf v_now_below v_now_face v_now_worn v_now_last v_now_bend v_now_tall) (g9_0 : gm_sh m_rowsOf m_columnsOf m_isKept m_imageRows m_imageColumns m_shapeRows m_shapeColumns m_row m_column m_below m_face m_worn m_lastBend) (hr_0 : rl_ge v_now_rows v_now_cols v_now_high v_now_wide v_now_folds v_now_rowOf v_now_colOf v_now_below v_now_face v_hasImage v_kept_rows v_kept_cols v_kept_high v_kept_wide v_kept_folds v_kept_rowOf v_kept_colOf v_kept_below v_kept_face m_rowsOf m_columnsOf m_folded m_isKept m_imageRows m_imageColumns m_imageFolded m_shapeRows m_shapeColumns m_row m_column m_below m_face) : ∃ (r : Int32), fX8_shape 700 x1 v_now_rows v_now_cols v_now_high v_now_wide v_now_below = some r ∧ fX9_shape 700 x1 m_rowsOf m_columnsOf m_shapeRows m_shapeColumns m_below = some r ∧ rl_ge v_now_rows v_now_cols v_now_high v_now_wide v_now_folds v_now_rowOf v_now_colOf v_now_below v_now_face v_hasImage v_kept_rows v_kept_cols v_kept_high v_kept_wide v_kept_folds v_kept_rowOf v_kept_colOf v_kept_below v_kept_face m_rowsOf m_columnsOf m_folded m_isKept m_imageRows m_imageColumns m_imageFolded m_shapeRows m_shapeColumns m_row m_column m_below m_face := by
  obtain ⟨r8, e8, -⟩ := st8_shape (x1 := x1)  g8_0
  obtain ⟨r9, e9, -⟩ := st9_shape (x1 := x1)  g9_0
  obtain ⟨a0, a1, a2, a3, a4, a5, a6, a7, a8, a9, a10, a11, a12, a13, a14, a15, a16, a17⟩ := id g8_0
  obtain ⟨z0, z1, z2, z3, z4, z5, z6, z7, z8, z9, z10, z11, z12, z13⟩ := id g9_0
  have n0 : (0 : Int32).toInt = 0 := by decide
  have n5 : (5 : Int32).toInt = 5 := by decide
  have y0 : (0 : Int32).toInt.toNat = 0 := by decide
  have y5 : (5 : Int32).toInt.toNat = 5 := by decide
  obtain ⟨b1, b2, b3, b4, b5, b6⟩ := id hr_0
  have hf := i_fl z0 z1 z2 z3
  have hf8 := i_fl a0 a1 a2 a3
  obtain ⟨l1, l2, l3⟩ := id b5
  have er : r9 = r8 := by
    have f8 := e8
    have f9 := e9
    rw [b1, b2] at hf
    obtain ⟨h, eh⟩ : ∃ h : Int32, fX5_highestPile 700 v_now_rows v_now_cols v_now_below = some h := by
      obtain ⟨q, eq, -⟩ := st8_shape (x1 := (2 : Int32)) g8_0
      unfold fX8_shape at eq
      rw [if_neg (by decide), if_neg (by decide), if_pos rfl] at eq
      obtain ⟨v, ev, -⟩ := mm_bd1s eq
      exact ⟨v, ev⟩
    unfold fX5_highestPile at eh
    unfold fX9_shape at f9
    have q := hp_4 (m := (v_now_rows.toInt * v_now_cols.toInt).toNat) (by omega) (by rw [b1, b2]; omega) (by omega) (fun k hk => (by have v := (l3 k hk).2.2.1; rw [Nat.mul_zero, Nat.zero_add] at v; exact v)) 700 700 (0 : Int32) (0 : Int32) h r9 eh f9 (by omega)
    unfold fX8_shape at f8
    rw [ge_ig, ge_ig, y0, l1, l2] at q
    rw [q]
    by_cases c0 : x1 = 0
    · rw [if_pos c0] at f8 ⊢
      exact sm_i f8
    · rw [if_neg c0] at f8 ⊢
      by_cases c1 : x1 = 1
      · rw [if_pos c1] at f8 ⊢
        exact sm_i f8
      · rw [if_neg c1] at f8 ⊢
        by_cases c2 : x1 = 2
        · rw [if_pos c2] at f8 ⊢
          unfold fX5_highestPile at f8
          rw [eh, bs_1] at f8
          exact sm_i f8
        · rw [if_neg c2] at f8 ⊢
          exact sm_i f8
  subst er
  exact ⟨_, e8, e9, hr_0⟩
end
section
/-! Geometry: a plan tried -/
def ln_w (sR sC row col bel fac hi to PS : List Int32) : Prop := sR.length = 6 ∧ sC.length = 6 ∧ row.length = 192 ∧ col.length = 192 ∧ bel.length = 192 ∧ fac.length = 192 ∧ hi.length = 32 ∧ to.length = 32 ∧ PS.length = 64
/-- a fold on a sheet and on a level: the geometry behind it -/
theorem bt_e {lv x1 x2 x3 rows cols hg wd fo wr mo : Int32} {R C B F W A be T : List Int32} {sc sk : Int32} {stp st : List Int32} {r h' w' fo' wr' mo' : Int32} {R' C' B' F' W' A' be' T' : List Int32} {sk' : Int32} {st' : List Int32} {tm ba at_ en fa op bm bw mw : Int32} {lim sR sC row col bel fac wo la tape text nam ben hi to PS : List Int32} {ba' at' en' fa' op' bm' bw' mw' : Int32} {sR' sC' row' col' bel' fac' wo' la' nam' ben' hi' to' PS' : List Int32} (L0 : 0 ≤ lv.toInt) (L5 : lv.toInt ≤ 5) (g : gi_sh rows cols hg wd R C B F W A be T) (s0 : 0 ≤ sc.toInt) (s1 : sc.toInt ≤ 121) (s2 : stp.length = 121) (s3 : st.length = 121) (o : ok_w x1 x2 hg wd) (ln : ln_w sR sC row col bel fac hi to PS) (rl : lg_w lv.toInt.toNat rows cols hg wd R C B F sR sC row col bel fac) (e8 : fX5_bendAndTurn 700 x1 x2 x3 rows cols hg wd fo wr mo R C B F W A be T sc sk stp st = some (r, h', w', fo', wr', mo', R', C', B', F', W', A', be', T', sk', st')) (e9 : fX9_foldsOn 700 lv x1 x2 rows cols tm ba at_ en fa op bm bw mw lim sR sC row col bel fac wo la tape text nam ben hi to PS = some (ba', at', en', fa', op', bm', bw', mw', sR', sC', row', col', bel', fac', wo', la', nam', ben', hi', to', PS')) : gi_sh rows cols h' w' R' C' B' F' W' A' be' T' ∧ st'.length = 121 ∧ ln_w sR' sC' row' col' bel' fac' hi' to' PS' ∧ lg_w lv.toInt.toNat rows cols h' w' R' C' B' F' sR' sC' row' col' bel' fac' := by
  have n4 : (4 : Int32).toInt = 4 := by decide
  obtain ⟨a0, a1, a2, a3, a4, a5, a6, a7, a8, a9, a10, a11, a12, a13, a14, a15, a16, a17⟩ := id g
  obtain ⟨z1, z2, z3, z4, z5, z6, z7, z8, z9⟩ := ln
  obtain ⟨l1, l2, l3⟩ := rl
  have hf := i_fl a0 a1 a2 a3
  have o3 : x2.toInt < 4 → x1.toInt < wd.toInt := fun h => by
    have q := o.2.2
    rw [if_neg (fun k => absurd (i_le k) (by omega))] at q
    exact q
  have o4 : 4 ≤ x2.toInt → x1.toInt < hg.toInt := fun h => by
    have q := o.2.2
    rw [if_pos (Int32.le_iff_toInt_le.mpr (by omega))] at q
    exact q
  have q := wp_get (sf_X5_bendAndTurn (Nat.le_refl 700) a0 a1 a2 a3 a4 a5 a6 a7 a8 a9 a10 a11 a12 a13 a14 a15 a16 a17 s0 s1 s2 s3 o.2.1 o3 o4) e8
  obtain ⟨q0, q1, q2, q3, q4, q5, q6, q7, q8, q9, q10, q11, q12, q13, q14⟩ := q
  unfold fX5_bendAndTurn at e8
  obtain ⟨b0, b1, em, e8⟩ := mm_bd2s e8
  obtain ⟨-, -, et⟩ := ba_12 700 _ _ _ _ _ _ _ e8
  obtain ⟨u1, u2, u3, -, -, ⟨v1, v2, v3, v4, v5, v6, v7, v8, v9⟩⟩ := tr_e (m := (rows.toInt * cols.toInt).toNat) (by omega) (by omega) L0 L5 o.1.1 o.1.2 a8 a9 a10 a11 a15 z3 z4 z5 z6 z7 z8 z9 z1 z2 ⟨a4, a5⟩ ⟨a6, a7⟩ (fun k hk => zn_n a16 (by omega) (by omega) (by omega)) (fun k hk => zn_n a17 (by omega) (by omega) (by omega)) l1 l2 l3 et (fs_9 e9).1
  exact ⟨⟨a0, a1, a2, a3, q0, q1, q2, q3, q4, q5, q6, q7, q8, q9, q10, q11, q12, q13⟩, q14, ⟨v8, v9, v1, v2, v3, v4, v5, v6, v7⟩, u1, u2, u3⟩
theorem tf_11 {x1 x3 size rows cols : Int32} {lines ways : List Int32} {p2_rows p2_cols p2_high p2_wide p2_folds p2_wrong p2_more : Int32} {p2_R p2_C p2_B p2_F p2_W p2_A : List Int32} {sc : Int32} {stp : List Int32} {tm : Int32} {lim tape text : List Int32} (s0 : 0 ≤ sc.toInt) (s1 : sc.toInt ≤ 121) (s2 : stp.length = 121) (w12 : ways.length = 12) (sz : size.toInt ≤ 12) (hw : zn ways 0 size.toInt 0 8) : ∀ (n n' : Nat) (x5 hg wd fo wr mo : Int32) (R C B F W A be T : List Int32) (sk : Int32) (st : List Int32) (ba at_ en fa op bm bw mw aw ao z : Int32) (sR sC row col bel fac wo la nam ben hi to PS : List Int32) (r8 rows' cols' h' w' fo' wr' mo' : Int32) (R' C' B' F' W' A' be' T' : List Int32) (sk' : Int32) (st' : List Int32) (r9 ba' at' en' fa' op' bm' bw' mw' aw' ao' z' : Int32) (sR' sC' row' col' bel' fac' wo' la' nam' ben' hi' to' PS' : List Int32), fX3_tryFirst_11 700 n x1 x3 x5 size rows cols hg wd fo wr mo R C B F W A be T lines ways p2_rows p2_cols p2_high p2_wide p2_folds p2_wrong p2_more p2_R p2_C p2_B p2_F p2_W p2_A sc sk stp st = some (r8, rows', cols', h', w', fo', wr', mo', R', C', B', F', W', A', be', T', sk', st') → fX9_goesPlan_17 700 n' x1 (-1 : Int32) x5 rows cols tm ba at_ en fa op bm bw mw size aw ao z lim sR sC row col bel fac wo la tape text nam ben hi to PS lines ways = some (r9, ba', at', en', fa', op', bm', bw', mw', aw', ao', z', sR', sC', row', col', bel', fac', wo', la', nam', ben', hi', to', PS') → 0 ≤ x5.toInt → x5.toInt ≤ x1.toInt → x5.toInt ≤ size.toInt → gi_sh rows cols hg wd R C B F W A be T → st.length = 121 → ln_w sR sC row col bel fac hi to PS → lg_w 1 rows cols hg wd R C B F sR sC row col bel fac → r9 = r8 ∧ rows' = rows ∧ cols' = cols ∧ gi_sh rows cols h' w' R' C' B' F' W' A' be' T' ∧ lg_w 1 rows cols h' w' R' C' B' F' sR' sC' row' col' bel' fac' := by
  have n1 : (1 : Int32).toInt = 1 := by decide
  have y1 : (1 : Int32).toInt.toNat = 1 := by decide
  intro n
  induction n with
  | zero =>
    intro n' x5 hg wd fo wr mo R C B F W A be T sk st ba at_ en fa op bm bw mw aw ao z sR sC row col bel fac wo la nam ben hi to PS r8 rows' cols' h' w' fo' wr' mo' R' C' B' F' W' A' be' T' sk' st' r9 ba' at' en' fa' op' bm' bw' mw' aw' ao' z' sR' sC' row' col' bel' fac' wo' la' nam' ben' hi' to' PS' e8
    exact absurd e8 (by intro h; cases h)
  | succ n ih =>
    intro n' x5 hg wd fo wr mo R C B F W A be T sk st ba at_ en fa op bm bw mw aw ao z sR sC row col bel fac wo la nam ben hi to PS r8 rows' cols' h' w' fo' wr' mo' R' C' B' F' W' A' be' T' sk' st' r9 ba' at' en' fa' op' bm' bw' mw' aw' ao' z' sR' sC' row' col' bel' fac' wo' la' nam' ben' hi' to' PS' e8 e9 p0 p1 p2 G l ln rl
    cases n' with
    | zero => exact absurd e9 (by intro h; cases h)
    | succ n' =>
      rw [uf_X3_tryFirst_11] at e8
      rw [uf_X9_goesPlan_17] at e9
      by_cases c1 : x1 ≤ x5
      · have d1 := i_le c1
        rw [if_pos c1, uf_X3_tryFirst_84] at e8
        apply mm_sub18 e8
        by_cases c2 : size ≤ x5
        · have d2 := i_le c2
          rw [if_pos c2] at e9
          apply mm_sub25 e9
          exact ⟨Int32.toInt_inj.mp (by rw [i_min]; omega), rfl, rfl, G, rl⟩
        · have d2 := i_nle c2
          rw [if_neg c2, if_pos c1] at e9
          apply mm_sub25 e9
          exact ⟨Int32.toInt_inj.mp (by rw [i_min]; omega), rfl, rfl, G, rl⟩
      · have d1 := i_nle c1
        rw [if_neg c1] at e8
        by_cases c2 : size ≤ x5
        · have d2 := i_le c2
          rw [if_pos c2, uf_X3_tryFirst_84] at e8
          rw [if_pos c2] at e9
          apply mm_sub18 e8
          apply mm_sub25 e9
          exact ⟨Int32.toInt_inj.mp (by rw [i_min]; omega), rfl, rfl, G, rl⟩
        · have d2 := i_nle c2
          rw [if_neg c2] at e8
          rw [if_neg c2, if_neg c1] at e9
          have e8 := ck_x (ck_x e8)
          have e9 := ck_x (ck_x e9)
          obtain ⟨a0, a1, a2, a3, a4, a5, a6, a7, a8, a9, a10, a11, a12, a13, a14, a15, a16, a17⟩ := id G
          obtain ⟨z1, z2, z3, z4, z5, z6, z7, z8, z9⟩ := id ln
          obtain ⟨l1, l2, l3⟩ := id rl
          rw [hl_e, bs_1] at e8
          rw [il_e z1 z2 (by omega) (by omega) (show mm_ig sR (1 : Int32) = hg by rw [ge_ig, y1]; exact l1) (show mm_ig sC (1 : Int32) = wd by rw [ge_ig, y1]; exact l2) ⟨a4, a5⟩ ⟨a6, a7⟩, bs_1] at e9
          by_cases d : 1 ≤ (mm_ig lines x5).toInt ∧ (mm_ig lines x5).toInt < (if (4 : Int32) ≤ mm_ig ways x5 then hg else wd).toInt
          · rw [decide_eq_true d, if_neg (by decide)] at e8 e9
            have e8 := ck_x (ck_x e8)
            obtain ⟨b0, b1, b2, b3, b4, b5, b6, b7, b8, b9, b10, b11, b12, b13, b14, b15, eb, e8⟩ := mm_bd16s e8
            rw [nm_eq] at e8
            have e9 := ck_x e9
            rw [nm_eq, if_pos (by decide), uf_X9_goesPlan_103] at e9
            have e9 := ck_x e9
            obtain ⟨f0, f1, f2, f3, f4, f5, f6, f7, f8, f9, f10, f11, f12, f13, f14, f15, f16, f17, f18, f19, f20, ef, e9⟩ := mm_bd21s e9
            rw [nm_eq, nm_eq, nm_eq] at e9
            have hz := zn_get hw p0 p0 (by omega) (by omega)
            obtain ⟨q1, q2, q3, q4⟩ := bt_e (lv := (1 : Int32)) (by omega) (by omega) G s0 s1 s2 l ⟨⟨hz.1, by omega⟩, d⟩ ln (by rw [y1]; exact rl) eb ef
            rw [y1] at q4
            generalize hy : x5 + (1 : Int32) = y at e8 e9
            have ey := i_addE hy (by omega) (by omega)
            exact ih n' y _ _ _ _ _ _ _ _ _ _ _ _ _ _ _ _ _ _ _ _ _ _ _ _ _ _ _ _ _ _ _ _ _ _ _ _ _ _ _ _ _ _ _ _ _ _ _ _ _ _ _ _ _ _ _ _ _ _ _ _ _ _ _ _ _ _ _ _ _ _ _ _ _ _ _ _ _ _ _ _ _ _ e8 e9 (by omega) (by omega) (by omega) q1 q2 q3 q4
          · rw [decide_eq_false d, if_pos rfl] at e8 e9
            apply mm_sub18 e8
            apply mm_sub25 e9
            exact ⟨rfl, rfl, rfl, G, rl⟩
end
section
/-! Geometry: a plan tried, from its start -/
theorem tp_e {x1 x3 size : Int32} {t_rows t_cols t_high t_wide t_folds t_wrong t_more : Int32} {t_R t_C t_B t_F t_W t_A t_be t_T lines ways : List Int32} {rows cols hg wd fo wr mo : Int32} {R C B F W A nbe nT : List Int32} {sc sk : Int32} {stp st : List Int32} {r8 rows' cols' h' w' fo' wr' mo' : Int32} {R' C' B' F' W' A' be' T' : List Int32} {sk' : Int32} {st' : List Int32} {tm ba at_ en fa op bm bw mw aw ao z : Int32} {lim sR sC row col bel fac wo la tape text nam ben hi to PS : List Int32} {r9 ba' at' en' fa' op' bm' bw' mw' aw' ao' z' : Int32} {sR' sC' row' col' bel' fac' wo' la' nam' ben' hi' to' PS' : List Int32} (x0 : 0 ≤ x1.toInt) (s0 : 0 ≤ sc.toInt) (s1 : sc.toInt ≤ 121) (s2 : stp.length = 121) (s3 : st.length = 121) (w12 : ways.length = 12) (sz0 : 0 ≤ size.toInt) (sz : size.toInt ≤ 12) (hw : zn ways 0 size.toInt 0 8) (gt : gi_sh t_rows t_cols t_high t_wide t_R t_C t_B t_F t_W t_A t_be t_T) (gn : gi_sh rows cols hg wd R C B F W A nbe nT) (ln : ln_w sR sC row col bel fac hi to PS) (lw : wo.length = 384) (la_ : la.length = 384) (e8 : fX3_tryFirst 700 x1 x3 size t_rows t_cols t_high t_wide t_folds t_wrong t_more t_R t_C t_B t_F t_W t_A t_be t_T lines ways rows cols hg wd fo wr mo R C B F W A sc sk stp st = some (r8, rows', cols', h', w', fo', wr', mo', R', C', B', F', W', A', be', T', sk', st')) (e9 : fX9_goesPlan 700 x1 (-1 : Int32) rows cols tm ba at_ en fa op bm bw mw size aw ao z lim sR sC row col bel fac wo la tape text nam ben hi to PS lines ways = some (r9, ba', at', en', fa', op', bm', bw', mw', aw', ao', z', sR', sC', row', col', bel', fac', wo', la', nam', ben', hi', to', PS')) : r9 = r8 ∧ rows' = rows ∧ cols' = cols ∧ gi_sh rows cols h' w' R' C' B' F' W' A' be' T' ∧ lg_w 1 rows cols h' w' R' C' B' F' sR' sC' row' col' bel' fac' := by
  have n0 : (0 : Int32).toInt = 0 := by decide
  have n1 : (1 : Int32).toInt = 1 := by decide
  have y1 : (1 : Int32).toInt.toNat = 1 := by decide
  obtain ⟨t0, t1, t2, t3, t4, t5, t6, t7, t8, t9, t10, t11, t12, t13, t14, t15, t16, t17⟩ := gt
  obtain ⟨a0, a1, a2, a3, a4, a5, a6, a7, a8, a9, a10, a11, a12, a13, a14, a15, a16, a17⟩ := id gn
  obtain ⟨z1, z2, z3, z4, z5, z6, z7, z8, z9⟩ := id ln
  have hf := i_fl a0 a1 a2 a3
  rw [uf_X3_tryFirst] at e8
  obtain ⟨w1, w2, w3, w4, w5, w6, w7, w8, w9, w10, w11, w12', w13, eb, e8⟩ := mm_bd13s e8
  have q := wp_get (sf_X5_beginTrial (Nat.le_refl 700) t0 t1 t2 t3 t4 t5 t6 t7 t8 t9 t10 t11 t12 t13 a0 a1 a2 a3 a4 a5 a6 a7 a8 a9 a10 a11 a12 a13 a16 a17) eb
  obtain ⟨q0, q1, q2, q3, q4, q5, q6, q7, q8, q9, q10, q11, q12, q13, q14, q15, -, -⟩ := q
  unfold fX5_beginTrial at eb
  rw [cp_e t8 t9 t10 t11 t12 t13 a8 a9 a10 a11 a12 a13] at eb
  have eb2 : mm_bd3 (fX5_forgetLed 700 fo wr mo) (fun (u15 : Int32) (u16 : Int32) (u17 : Int32) => mm_bd6 (fX5_layOut 700 rows cols hg wd R C B F) (fun (u19 : Int32) (u20 : Int32) (u21 : List Int32) (u22 : List Int32) (u23 : List Int32) (u24 : List Int32) => some (rows, cols, u19, u20, u15, u16, u17, u21, u22, u23, u24, W, A))) = some (w1, w2, w3, w4, w5, w6, w7, w8, w9, w10, w11, w12', w13) := eb
  obtain ⟨u15, u16, u17, -, eb3⟩ := mm_bd3s eb2
  obtain ⟨u19, u20, u21, u22, u23, u24, el, eb4⟩ := mm_bd6s eb3
  obtain ⟨c1, c2, c3⟩ := lo_e (m := (rows.toInt * cols.toInt).toNat) (by omega) (by omega) a0 a1 a2 a3 a8 a9 a10 a11 el
  rw [uf_X9_goesPlan] at e9
  obtain ⟨x1', x2', x3', x4', x5', x6', x7', x8', es, e9⟩ := mm_bd8s e9
  obtain ⟨⟨d1, d2, d3, d4, d5, d6, d7, d8⟩, -, d10, -, -⟩ := sa_r (m := (rows.toInt * cols.toInt).toNat) (by omega) (by omega) a2 a3 (by omega) (by omega) z3 z4 z5 z6 lw la_ es
  rw [y1] at d10
  have eb5 := sm_i eb4
  injection eb5 with f1 eb5
  injection eb5 with f2 eb5
  injection eb5 with f3 eb5
  injection eb5 with f4 eb5
  injection eb5 with f5 eb5
  injection eb5 with f6 eb5
  injection eb5 with f7 eb5
  injection eb5 with f8 eb5
  injection eb5 with f9 eb5
  injection eb5 with f10 eb5
  injection eb5 with f11 eb5
  subst f1 f2 f3 f4 f8 f9 f10 f11
  refine tf_11 s0 s1 s2 w12 sz hw 700 700 (0 : Int32) _ _ _ _ _ _ _ _ _ _ _ _ _ _ _ _ _ _ _ _ _ _ _ _ _ _ _ _ _ _ _ _ _ _ _ _ _ _ _ _ _ _ _ _ _ _ _ _ _ _ _ _ _ _ _ _ _ _ _ _ _ _ _ _ _ _ _ _ _ _ _ _ _ _ _ _ _ _ _ _ _ _ e8 e9 (by omega) (by omega) (by omega) ⟨q0, q1, q2, q3, q4, q5, q6, q7, q8, q9, q10, q11, q12, q13, t14, t15, q14, q15⟩ s3 ?_ ⟨?_, ?_, ?_⟩
  · rw [d1, d2]
    exact ⟨by rw [is_len]; exact z1, by rw [is_len]; exact z2, d3, d4, d5, d6, z7, z8, z9⟩
  · rw [d1, c1, ge_is _ _ _ _ (by omega), y1, if_pos rfl]
  · rw [d2, c2, ge_is _ _ _ _ (by omega), y1, if_pos rfl]
  · exact fl_x c3 d10
/-! The plan's ways -/
theorem zx_w {ws : List Int32} {s v y : Int32} (h : zn ws 0 s.toInt 0 8) (s0 : 0 ≤ s.toInt) (hy : s + (1 : Int32) = y) (ey : y.toInt = s.toInt + 1) (v0 : 0 ≤ v.toInt) (v7 : v.toInt ≤ 7) : zn (mm_is ws s v) 0 y.toInt 0 8 := zn_ext h s0 rfl v0 (by omega) ey
theorem p9_69 {x1 x2 x3 : Int32} {sh mn : List Int32} {it : List Int64} : ∀ (n : Nat) (x4 x5 s : Int32) (ls ws : List Int32) (r s' : Int32) (ls' ws' : List Int32), fX9_plans_69 700 n x1 x2 x3 x4 x5 s ls ws sh mn it = some (r, s', ls', ws') → 0 ≤ s.toInt → s.toInt ≤ 12 → zn ws 0 s.toInt 0 8 → zn ws' 0 s'.toInt 0 8 := by
  have n1 : (1 : Int32).toInt = 1 := by decide
  have n12 : (12 : Int32).toInt = 12 := by decide
  have m0 : (0 : Int64).toInt = 0 := by decide
  have m7 : (7 : Int64).toInt = 7 := by decide
  intro n
  induction n with
  | zero =>
    intro x4 x5 s ls ws r s' ls' ws' e
    exact absurd e (by intro h; cases h)
  | succ n ih =>
    intro x4 x5 s ls ws r s' ls' ws' e p0 p1 H
    rw [uf_X9_plans_69] at e
    by_cases c1 : x5 = 0
    · rw [if_pos c1] at e
      apply mm_sub4 e
      exact H
    · rw [if_neg c1] at e
      by_cases c2 : x3 ≤ x4
      · rw [if_pos c2] at e
        apply mm_sub4 e
        exact H
      · rw [if_neg c2] at e
        have e := ck_x e
        have K0 : ∀ x6 : Int32, fX9_plans_171 700 (fX9_plans_69 700 n) x1 x2 x3 x4 x6 s ls ws sh mn it = some (r, s', ls', ws') → zn ws' 0 s'.toInt 0 8 := by
          intro x6 e
          unfold fX9_plans_171 fX9_plans_172 at e
          rw [if_pos rfl] at e
          unfold fX9_plans_228 at e
          exact ih _ _ _ _ _ _ _ _ _ e p0 p1 H
        have K1 : fX9_plans_110 700 (fX9_plans_69 700 n) x1 x2 x3 x4 s ls ws sh mn it = some (r, s', ls', ws') → zn ws' 0 s'.toInt 0 8 := by
          intro e
          unfold fX9_plans_110 fX9_plans_111 at e
          rw [nm_eq, if_pos rfl] at e
          exact K0 _ e
        by_cases c3 : (((mm_ig mn x1) - (2 : Int32)) - ((2 : Int32) * x4)) < x2
        · rw [if_pos c3] at e
          exact K1 e
        · rw [if_neg c3] at e
          by_cases c4 : (12 : Int32) ≤ s
          · rw [if_pos c4] at e
            exact K1 e
          · have d4 := i_nle c4
            rw [if_neg c4] at e
            unfold fX9_plans_111 at e
            rw [nm_eq, if_neg (by decide)] at e
            have e := ck_x e
            obtain ⟨b1, e1, e⟩ := mm_bd1s e
            by_cases g1 : b1 = false
            · rw [if_pos g1] at e
              exact K0 _ e
            · rw [if_neg g1] at e
              have e := ck_x e
              rw [wn_x, bs_1, m0, m7] at e
              by_cases g2 : 0 ≤ (mm_lg it (((((60 : Int32) * x1) + x2) + ((2 : Int32) * x4)) + (1 : Int32))).toInt ∧ (mm_lg it (((((60 : Int32) * x1) + x2) + ((2 : Int32) * x4)) + (1 : Int32))).toInt ≤ 7
              · rw [decide_eq_true g2, if_neg (by decide)] at e
                unfold fX9_plans_172 at e
                rw [if_neg (by decide)] at e
                have e := ck_x e
                rw [nm_eq] at e
                have e := ck_x e
                rw [nm_eq] at e
                have e := ck_x e
                rw [nm_eq] at e
                have e := ck_x e
                rw [nm_eq, nm_eq, nm_eq] at e
                unfold fX9_plans_228 at e
                generalize hy : s + (1 : Int32) = y at e
                have ey := i_addE hy (by omega) (by omega)
                have hv : ((mm_lg it (((((60 : Int32) * x1) + x2) + ((2 : Int32) * x4)) + (1 : Int32))).toInt32).toInt = (mm_lg it (((((60 : Int32) * x1) + x2) + ((2 : Int32) * x4)) + (1 : Int32))).toInt := by
                  rw [Int64.toInt_toInt32]
                  exact Int.bmod_eq_of_le (by omega) (by omega)
                exact ih _ _ _ _ _ _ _ _ _ e (by omega) (by omega) (zx_w H p0 hy (by omega) (by omega) (by omega))
              · rw [decide_eq_false g2, if_pos rfl] at e
                exact K0 _ e
theorem p9_s {x1 x2 x3 s r s' : Int32} {ls ws ls' ws' sh mn : List Int32} {it : List Int64} (p0 : 0 ≤ s.toInt) (p1 : s.toInt ≤ 12) (H : zn ws 0 s.toInt 0 8) (e : fX9_plans 700 x1 x2 x3 s ls ws sh mn it = some (r, s', ls', ws')) : zn ws' 0 s'.toInt 0 8 := by
  have K : ∀ k : Int32, fX9_plans_67 700 x1 x2 x3 (0 : Int32) k s ls ws sh mn it = some (r, s', ls', ws') → zn ws' 0 s'.toInt 0 8 := fun k e => by
    unfold fX9_plans_67 at e
    exact p9_69 _ _ _ _ _ _ _ _ _ _ e p0 p1 H
  have K2 : fX9_plans_44 700 x1 x2 x3 s ls ws sh mn it = some (r, s', ls', ws') → zn ws' 0 s'.toInt 0 8 := fun e => by
    unfold fX9_plans_44 at e
    have e := ck_x e
    by_cases c : mm_ig sh x1 = (50 : Int32)
    · rw [if_pos c] at e
      by_cases d : x2 < 0
      · rw [if_pos d] at e
        unfold fX9_plans_66 at e
        exact K _ e
      · rw [if_neg d] at e
        exact K _ e
    · rw [if_neg c] at e
      unfold fX9_plans_66 at e
      exact K _ e
  unfold fX9_plans at e
  obtain ⟨b1, -, e⟩ := mm_bd1s e
  by_cases g1 : b1 = false
  · rw [if_pos g1] at e
    apply mm_sub4 e
    exact H
  · rw [if_neg g1] at e
    obtain ⟨b2, -, e⟩ := mm_bd1s e
    by_cases g2 : b2 = false
    · rw [if_pos g2] at e
      apply mm_sub4 e
      exact H
    · rw [if_neg g2] at e
      have e := ck_x e
      by_cases g3 : mm_ig sh x1 < 0
      · rw [if_pos g3] at e
        exact K2 e
      · rw [if_neg g3] at e
        have e := ck_x e
        by_cases g4 : mm_ig sh x1 = (50 : Int32)
        · rw [if_pos g4] at e
          exact K2 e
        · rw [if_neg g4] at e
          apply mm_sub4 e
          exact H
theorem p9_p {x1 x2 s r s' : Int32} {ls ws ls' ws' : List Int32} (p0 : 0 ≤ s.toInt) (p1 : s.toInt ≤ 12) (H : zn ws 0 s.toInt 0 8) (e : fX9_plan 700 x1 x2 s ls ws = some (r, s', ls', ws')) : zn ws' 0 s'.toInt 0 8 := by
  have n0 : (0 : Int32).toInt = 0 := by decide
  have n1 : (1 : Int32).toInt = 1 := by decide
  have n12 : (12 : Int32).toInt = 12 := by decide
  have m0 : (0 : Int64).toInt = 0 := by decide
  have m7 : (7 : Int64).toInt = 7 := by decide
  unfold fX9_plan at e
  by_cases c : x1 = 0
  · rw [if_pos c] at e
    apply mm_sub4 e
    exact zn_nil (by omega)
  · rw [if_neg c] at e
    obtain ⟨b1, -, e⟩ := mm_bd1s e
    by_cases g1 : b1 = false
    · rw [if_pos g1] at e
      apply mm_sub4 e
      exact H
    · rw [if_neg g1, wn_x, bs_1, i_64, m0, m7] at e
      by_cases g2 : 0 ≤ x2.toInt ∧ x2.toInt ≤ 7
      · rw [decide_eq_true g2, if_neg (by decide)] at e
        by_cases g3 : s = (12 : Int32)
        · rw [if_pos g3] at e
          apply mm_sub4 e
          exact H
        · have d3 := i_ne g3
          rw [if_neg g3] at e
          have e := ck_x e
          rw [nm_eq] at e
          have e := ck_x e
          rw [nm_eq, nm_eq] at e
          generalize hy : s + (1 : Int32) = y at e
          have ey := i_addE hy (by omega) (by omega)
          apply mm_sub4 e
          exact zx_w H p0 hy (by omega) g2.1 g2.2
      · rw [decide_eq_false g2, if_pos rfl] at e
        apply mm_sub4 e
        exact H
end
section
/-! Geometry: behind a plan's first folds; tops -/
theorem bh_e {x1 lim8 size : Int32} {t_rows t_cols t_high t_wide t_folds t_wrong t_more : Int32} {t_R t_C t_B t_F t_W t_A t_be t_T lines ways : List Int32} {rows cols hg wd fo wr mo : Int32} {R C B F W A nbe nT : List Int32} {sc sk : Int32} {stp st : List Int32} {b8 : Bool} {rows' cols' h' w' fo' wr' mo' : Int32} {R' C' B' F' W' A' be' T' : List Int32} {sk' : Int32} {st' : List Int32} {tm ba at_ en fa op bm bw mw aw ao z : Int32} {lim sR sC row col bel fac wo la tape text nam ben hi to PS : List Int32} {b9 : Bool} {ba' at' en' fa' op' bm' bw' mw' aw' ao' z' : Int32} {sR' sC' row' col' bel' fac' wo' la' nam' ben' hi' to' PS' : List Int32} (s0 : 0 ≤ sc.toInt) (s1 : sc.toInt ≤ 121) (s2 : stp.length = 121) (s3 : st.length = 121) (w12 : ways.length = 12) (sz0 : 0 ≤ size.toInt) (sz : size.toInt ≤ 12) (hw : zn ways 0 size.toInt 0 8) (gt : gi_sh t_rows t_cols t_high t_wide t_R t_C t_B t_F t_W t_A t_be t_T) (gn : gi_sh rows cols hg wd R C B F W A nbe nT) (ln : ln_w sR sC row col bel fac hi to PS) (lw : wo.length = 384) (la_ : la.length = 384) (e8 : fX8_behind 700 x1 rows cols hg wd fo wr mo R C B F W A sc sk stp st size t_rows t_cols t_high t_wide t_folds t_wrong t_more t_R t_C t_B t_F t_W t_A t_be t_T lines ways lim8 = some (b8, sk', st', rows', cols', h', w', fo', wr', mo', R', C', B', F', W', A', be', T')) (e9 : fX9_isBehind 700 x1 rows cols tm ba at_ en fa op bm bw mw size aw ao z lim sR sC row col bel fac wo la tape text nam ben hi to PS lines ways = some (b9, ba', at', en', fa', op', bm', bw', mw', aw', ao', z', sR', sC', row', col', bel', fac', wo', la', nam', ben', hi', to', PS')) : b9 = b8 ∧ (b8 = true → rows' = rows ∧ cols' = cols ∧ gi_sh rows cols h' w' R' C' B' F' W' A' be' T' ∧ lg_w 1 rows cols h' w' R' C' B' F' sR' sC' row' col' bel' fac') := by
  have n0 : (0 : Int32).toInt = 0 := by decide
  rw [uf_X8_behind] at e8
  rw [uf_X9_isBehind] at e9
  by_cases c : x1 < 0
  · rw [if_pos c] at e8 e9
    apply mm_sub18 e8
    apply mm_sub25 e9
    exact ⟨rfl, fun h => absurd h (by decide)⟩
  · have d := i_nlt c
    rw [if_neg c] at e8 e9
    obtain ⟨u0, u1, u2, u3, u4, u5, u6, u7, u8, u9, u10, u11, u12, u13, u14, u15, u16, u17, et, e8⟩ := mm_bd18s e8
    obtain ⟨v0, v1, v2, v3, v4, v5, v6, v7, v8, v9, v10, v11, v12, v13, v14, v15, v16, v17, v18, v19, v20, v21, v22, v23, v24, eg, e9⟩ := mm_bd25s e9
    obtain ⟨q1, q2, q3, q4, q5⟩ := tp_e (by omega) s0 s1 s2 s3 w12 sz0 sz hw gt gn ln lw la_ et eg
    subst q1
    by_cases g : v0 = x1
    · rw [if_pos g] at e8 e9
      apply mm_sub18 e8
      apply mm_sub25 e9
      exact ⟨rfl, fun _ => ⟨q2, q3, q4, q5⟩⟩
    · rw [if_neg g] at e8 e9
      apply mm_sub18 e8
      apply mm_sub25 e9
      exact ⟨rfl, fun h => absurd h (by decide)⟩
theorem hs_5 {lv x1 x2 rows cols : Int32} {R C row col : List Int32} {m : Nat} (hm : (rows * cols).toInt = m) (m32 : m ≤ 32) (L0 : 0 ≤ lv.toInt) (L5 : lv.toInt ≤ 5) (H : ∀ k : Nat, k < m → row.getD (32 * lv.toInt.toNat + k) 0 = R.getD k 0 ∧ col.getD (32 * lv.toInt.toNat + k) 0 = C.getD k 0) : ∀ (n n' : Nat) (x3 x4 r8 r9 : Int32), fX5_heightAt_5 700 n x1 x2 x3 x4 rows cols R C = some r8 → fX9_sizeAt_6 700 n' lv x1 x2 x3 x4 rows cols row col = some r9 → 0 ≤ x4.toInt → r9 = r8 := by
  have n1 : (1 : Int32).toInt = 1 := by decide
  intro n
  induction n with
  | zero =>
    intro n' x3 x4 r8 r9 e
    exact absurd e (by intro h; cases h)
  | succ n ih =>
    intro n' x3 x4 r8 r9 e8 e9 p0
    cases n' with
    | zero => exact absurd e9 (by intro h; cases h)
    | succ n' =>
      rw [uf_X5_heightAt_5] at e8
      rw [uf_X9_sizeAt_6] at e9
      obtain ⟨f8, ef8, e8⟩ := mm_bd1s e8
      obtain ⟨f9, ef9, e9⟩ := mm_bd1s e9
      have h8 : rows * cols = f8 := sm_i ef8
      have h9 : rows * cols = f9 := sm_i ef9
      subst h8
      subst h9
      by_cases c : rows * cols ≤ x4
      · rw [if_pos c] at e8 e9
        exact (sm_i e9).symm.trans (sm_i e8)
      · have d := i_nle c
        rw [if_neg c] at e8 e9
        have e8 := ck_x e8
        have e9 := ck_x e9
        obtain ⟨q1, q2⟩ := H x4.toInt.toNat (by omega)
        have io := ix_e L0 L5 p0 (show x4.toInt ≤ 64 by omega)
        have hr : mm_ig row (((32 : Int32) * lv) + x4) = mm_ig R x4 := by rw [ge_ig, io]; exact q1
        have hc : mm_ig col (((32 : Int32) * lv) + x4) = mm_ig C x4 := by rw [ge_ig, io]; exact q2
        rw [hr] at e9
        generalize hy : x4 + (1 : Int32) = y at e8 e9
        have z0 : x3 + (0 : Int32) = x3 := Int32.add_zero _
        have ey := i_addE hy (by omega) (by omega)
        by_cases g1 : mm_ig R x4 = x1
        · rw [if_pos g1] at e8 e9
          have e8 := ck_x e8
          have e9 := ck_x e9
          rw [hc] at e9
          by_cases g2 : mm_ig C x4 = x2
          · rw [if_pos g2] at e8 e9
            rw [nm_eq, uf_X5_heightAt_39, nm_eq, hy] at e8
            rw [uf_X9_sizeAt_54, nm_eq, nm_eq, hy] at e9
            exact ih n' _ y r8 r9 e8 e9 (by omega)
          · rw [if_neg g2] at e8 e9
            rw [uf_X5_heightAt_39, nm_eq, hy] at e8
            rw [uf_X9_sizeAt_53, uf_X9_sizeAt_54, nm_eq, nm_eq, hy, z0] at e9
            exact ih n' _ y r8 r9 e8 e9 (by omega)
        · rw [if_neg g1] at e8 e9
          rw [uf_X5_heightAt_39, nm_eq, hy] at e8
          rw [uf_X9_sizeAt_53, uf_X9_sizeAt_54, nm_eq, nm_eq, hy, z0] at e9
          exact ih n' _ y r8 r9 e8 e9 (by omega)
theorem fa_3 {lv x1 x2 x3 rows cols : Int32} {R C B row col bel : List Int32} {m : Nat} (hm : (rows * cols).toInt = m) (m32 : m ≤ 32) (L0 : 0 ≤ lv.toInt) (L5 : lv.toInt ≤ 5) (H : ∀ k : Nat, k < m → row.getD (32 * lv.toInt.toNat + k) 0 = R.getD k 0 ∧ col.getD (32 * lv.toInt.toNat + k) 0 = C.getD k 0 ∧ bel.getD (32 * lv.toInt.toNat + k) 0 = B.getD k 0) : ∀ (n n' : Nat) (x4 r8 r9 : Int32), fX5_fieldAt_3 700 n x1 x2 x3 x4 rows cols R C B = some r8 → fX9_fieldAt_3 700 n' lv x1 x2 x3 x4 rows cols row col bel = some r9 → 0 ≤ x4.toInt → r9 = r8 := by
  have n1 : (1 : Int32).toInt = 1 := by decide
  intro n
  induction n with
  | zero =>
    intro n' x4 r8 r9 e
    exact absurd e (by intro h; cases h)
  | succ n ih =>
    intro n' x4 r8 r9 e8 e9 p0
    cases n' with
    | zero => exact absurd e9 (by intro h; cases h)
    | succ n' =>
      rw [uf_X5_fieldAt_3] at e8
      rw [uf_X9_fieldAt_3] at e9
      obtain ⟨f8, ef8, e8⟩ := mm_bd1s e8
      obtain ⟨f9, ef9, e9⟩ := mm_bd1s e9
      have h8 : rows * cols = f8 := sm_i ef8
      have h9 : rows * cols = f9 := sm_i ef9
      subst h8
      subst h9
      by_cases c : rows * cols ≤ x4
      · rw [if_pos c] at e8 e9
        exact (sm_i e9).symm.trans (sm_i e8)
      · have d := i_nle c
        rw [if_neg c] at e8 e9
        rw [nm_eq] at e9
        have e8 := ck_x e8
        have e9 := ck_x e9
        obtain ⟨q1, q2, q3⟩ := H x4.toInt.toNat (by omega)
        have io := ix_e L0 L5 p0 (show x4.toInt ≤ 64 by omega)
        have hr : mm_ig row (((32 : Int32) * lv) + x4) = mm_ig R x4 := by rw [ge_ig, io]; exact q1
        have hc : mm_ig col (((32 : Int32) * lv) + x4) = mm_ig C x4 := by rw [ge_ig, io]; exact q2
        have hb : mm_ig bel (((32 : Int32) * lv) + x4) = mm_ig B x4 := by rw [ge_ig, io]; exact q3
        have K : fX5_fieldAt_48 700 (fX5_fieldAt_3 700 n) x1 x2 x3 x4 rows cols R C B = some r8 → fX9_fieldAt_58 700 (fX9_fieldAt_3 700 n') lv x1 x2 x3 x4 rows cols row col bel = some r9 → r9 = r8 := by
          intro e8 e9
          rw [uf_X5_fieldAt_48, nm_eq] at e8
          rw [uf_X9_fieldAt_58, nm_eq] at e9
          generalize hy : x4 + (1 : Int32) = y at e8 e9
          have ey := i_addE hy (by omega) (by omega)
          exact ih n' y r8 r9 e8 e9 (by omega)
        rw [hr] at e9
        by_cases g1 : mm_ig R x4 = x1
        · rw [if_pos g1] at e8 e9
          have e8 := ck_x e8
          have e9 := ck_x e9
          rw [hc] at e9
          by_cases g2 : mm_ig C x4 = x2
          · rw [if_pos g2] at e8 e9
            have e8 := ck_x e8
            have e9 := ck_x e9
            rw [hb] at e9
            by_cases g3 : mm_ig B x4 = x3
            · rw [if_pos g3] at e8 e9
              exact (sm_i e9).symm.trans (sm_i e8)
            · rw [if_neg g3] at e8 e9
              exact K e8 e9
          · rw [if_neg g2] at e8 e9
            exact K e8 e9
        · rw [if_neg g1] at e8 e9
          exact K e8 e9
/-- what tops need of a level -/
def lh_w (m o : Nat) (R C B row col bel : List Int32) : Prop := ∀ k : Nat, k < m → row.getD (o + k) 0 = R.getD k 0 ∧ col.getD (o + k) 0 = C.getD k 0 ∧ bel.getD (o + k) 0 = B.getD k 0
theorem ta_a {lv x1 x2 rows cols r8 r9 : Int32} {R C B row col bel : List Int32} {m : Nat} (hm : (rows * cols).toInt = m) (m32 : m ≤ 32) (L0 : 0 ≤ lv.toInt) (L5 : lv.toInt ≤ 5) (H : lh_w m (32 * lv.toInt.toNat) R C B row col bel) (e8 : fX5_topAt 700 x1 x2 rows cols R C B = some r8) (e9 : fX9_topOf 700 lv x1 x2 rows cols row col bel = some r9) : r9 = r8 := by
  have n0 : (0 : Int32).toInt = 0 := by decide
  unfold fX5_topAt at e8
  unfold fX9_topOf at e9
  obtain ⟨h8, eh8, e8⟩ := mm_bd1s e8
  obtain ⟨h9, eh9, e9⟩ := mm_bd1s e9
  unfold fX5_heightAt at eh8
  unfold fX9_sizeAt at eh9
  have q := hs_5 hm m32 L0 L5 (fun k hk => ⟨(H k hk).1, (H k hk).2.1⟩) 700 700 _ _ _ _ eh8 eh9 (by omega)
  subst q
  obtain ⟨u8, eu8, e8⟩ := mm_bd1s e8
  obtain ⟨u9, eu9, e9⟩ := mm_bd1s e9
  unfold fX5_fieldAt at eu8
  unfold fX9_fieldAt at eu9
  have q := fa_3 hm m32 L0 L5 H 700 700 _ _ _ eu8 eu9 (by omega)
  rw [← sm_i e8, ← sm_i e9, q]
theorem it_a {lv x rows cols : Int32} {b8 b9 : Bool} {R C B row col bel : List Int32} {m : Nat} (hm : (rows * cols).toInt = m) (m32 : m ≤ 32) (L0 : 0 ≤ lv.toInt) (L5 : lv.toInt ≤ 5) (H : lh_w m (32 * lv.toInt.toNat) R C B row col bel) (x0 : 0 ≤ x.toInt) (x1 : x.toInt < m) (e8 : fX5_isTop 700 x rows cols R C B = some b8) (e9 : fX9_isOnTop 700 lv x rows cols row col bel = some b9) : b9 = b8 := by
  unfold fX5_isTop at e8
  unfold fX9_isOnTop at e9
  have e8 := ck_x (ck_x e8)
  have e9 := ck_x (ck_x e9)
  obtain ⟨q1, q2, q3⟩ := H x.toInt.toNat (by omega)
  have io := ix_e L0 L5 x0 (show x.toInt ≤ 64 by omega)
  have hr : mm_ig row (((32 : Int32) * lv) + x) = mm_ig R x := by rw [ge_ig, io]; exact q1
  have hc : mm_ig col (((32 : Int32) * lv) + x) = mm_ig C x := by rw [ge_ig, io]; exact q2
  rw [hr, hc] at e9
  obtain ⟨u8, eu8, e8⟩ := mm_bd1s e8
  obtain ⟨u9, eu9, e9⟩ := mm_bd1s e9
  have q := ta_a hm m32 L0 L5 H eu8 eu9
  subst q
  by_cases g : u9 = x
  · rw [if_pos g] at e8 e9
    exact (sm_i e9).symm.trans (sm_i e8)
  · rw [if_neg g] at e8 e9
    exact (sm_i e9).symm.trans (sm_i e8)
theorem sq_8 : ∀ p q : Fin 8, (p.val * p.val + q.val * q.val = 1) ↔ (p.val + q.val = 1) := by decide
theorem sq_e {a c : Int} (a0 : -7 ≤ a) (a1 : a ≤ 7) (c0 : -7 ≤ c) (c1 : c ≤ 7) : (a * a + c * c = 1) ↔ (a.natAbs + c.natAbs = 1) := by
  have q : (a.natAbs * a.natAbs + c.natAbs * c.natAbs = 1) ↔ (a.natAbs + c.natAbs = 1) := sq_8 ⟨a.natAbs, by omega⟩ ⟨c.natAbs, by omega⟩
  have h1 : ((a.natAbs * a.natAbs : Nat) : Int) = a * a := Int.natAbs_mul_self
  have h2 : ((c.natAbs * c.natAbs : Nat) : Int) = c * c := Int.natAbs_mul_self
  rw [← h1, ← h2, ← q]
  generalize a.natAbs * a.natAbs = u
  generalize c.natAbs * c.natAbs = v
  omega
theorem ab_e {x : Int32} (h0 : -100 ≤ x.toInt) (h1 : x.toInt ≤ 100) : (mm_abs x).toInt = x.toInt.natAbs := by
  have n0 : (0 : Int32).toInt = 0 := by decide
  unfold mm_abs
  by_cases c : (0 : Int32) ≤ x
  · have d := i_le c
    rw [if_pos c]
    omega
  · have d := i_nle c
    rw [if_neg c]
    generalize hz : (0 : Int32) - x = z
    have ez := i_subE hz (by omega) (by omega)
    omega
end
section
/-! A plan tried: the calls -/
def rl_pw (m_planned : Int32) (m_planWay : List Int32) : Prop := zn m_planWay 0 m_planned.toInt 0 8
set_option maxHeartbeats 4000000 in
set_option maxRecDepth 20000 in
theorem rs_plan_pw {x1 : Int32} {x2 : Int32} {v_planned_size : Int32} {v_planned_lines : List Int32} {v_planned_ways : List Int32} {m_planned : Int32} {m_planLine : List Int32} {m_planWay : List Int32} (g8_0 : gi_pl v_planned_size v_planned_lines v_planned_ways) (g9_0 : gm_pl m_planned m_planLine m_planWay) (hr_0 : rl_pl v_planned_size v_planned_lines v_planned_ways m_planned m_planLine m_planWay) (hr_1 : rl_pw m_planned m_planWay) : ∃ (r : Int32) (p_planned_size : Int32) (p_planned_lines : List Int32) (p_planned_ways : List Int32) (q_planned : Int32) (q_planLine : List Int32) (q_planWay : List Int32), fX8_plan 700 x1 x2 v_planned_size v_planned_lines v_planned_ways = some (r, p_planned_size, p_planned_lines, p_planned_ways) ∧ fX9_plan 700 x1 x2 m_planned m_planLine m_planWay = some (r, q_planned, q_planLine, q_planWay) ∧ gi_pl p_planned_size p_planned_lines p_planned_ways ∧ gm_pl q_planned q_planLine q_planWay ∧ rl_pl p_planned_size p_planned_lines p_planned_ways q_planned q_planLine q_planWay ∧ rl_pw q_planned q_planWay := by
  obtain ⟨b0, b1, -, -⟩ := id g9_0
  obtain ⟨r, u1, u2, u3, v1, v2, v3, e8, e9, k8, k9, h⟩ := rs_plan (x1 := x1) (x2 := x2) g8_0 g9_0 hr_0
  exact ⟨r, u1, u2, u3, v1, v2, v3, e8, e9, k8, k9, h, p9_p b0 b1 hr_1 e9⟩
set_option maxHeartbeats 4000000 in
set_option maxRecDepth 20000 in
theorem rs_plans_pw {x1 : Int32} {x2 : Int32} {x3 : Int32} {v_planned_size : Int32} {v_planned_lines : List Int32} {v_planned_ways : List Int32} {v_shelves0_holds : Int32} {v_shelves0_sort : Int32} {v_shelves0_size : Int32} {v_shelves0_items : List Int64} {v_shelves1_holds : Int32} {v_shelves1_sort : Int32} {v_shelves1_size : Int32} {v_shelves1_items : List Int64} {v_shelves2_holds : Int32} {v_shelves2_sort : Int32} {v_shelves2_size : Int32} {v_shelves2_items : List Int64} {v_shelves3_holds : Int32} {v_shelves3_sort : Int32} {v_shelves3_size : Int32} {v_shelves3_items : List Int64} {v_shelves4_holds : Int32} {v_shelves4_sort : Int32} {v_shelves4_size : Int32} {v_shelves4_items : List Int64} {v_shelves5_holds : Int32} {v_shelves5_sort : Int32} {v_shelves5_size : Int32} {v_shelves5_items : List Int64} {v_foldings_size : Int32} {v_shelves0_body : Int32} {v_shelves1_body : Int32} {v_shelves2_body : Int32} {v_shelves3_body : Int32} {v_shelves4_body : Int32} {v_shelves5_body : Int32} {m_planned : Int32} {m_planLine : List Int32} {m_planWay : List Int32} {m_shelf : List Int32} {m_many : List Int32} {m_items : List Int64} {m_carried : List Int64} (g8_0 : gi_pl v_planned_size v_planned_lines v_planned_ways) (g8_1 : gi_sf v_shelves0_size v_shelves0_items) (g8_2 : gi_sf v_shelves1_size v_shelves1_items) (g8_3 : gi_sf v_shelves2_size v_shelves2_items) (g8_4 : gi_sf v_shelves3_size v_shelves3_items) (g8_5 : gi_sf v_shelves4_size v_shelves4_items) (g8_6 : gi_sf v_shelves5_size v_shelves5_items) (g9_0 : gm_pl m_planned m_planLine m_planWay) (g9_1 : gm_sf m_shelf m_many m_items m_carried) (hr_0 : rl_sc v_foldings_size v_shelves0_holds v_shelves0_body v_shelves0_sort v_shelves0_size v_shelves1_holds v_shelves1_body v_shelves1_sort v_shelves1_size v_shelves2_holds v_shelves2_body v_shelves2_sort v_shelves2_size v_shelves3_holds v_shelves3_body v_shelves3_sort v_shelves3_size v_shelves4_holds v_shelves4_body v_shelves4_sort v_shelves4_size v_shelves5_holds v_shelves5_body v_shelves5_sort v_shelves5_size m_shelf m_many) (hr_1 : rl_it v_shelves0_items v_shelves1_items v_shelves2_items v_shelves3_items v_shelves4_items v_shelves5_items m_items) (hr_2 : rl_pl v_planned_size v_planned_lines v_planned_ways m_planned m_planLine m_planWay) (hr_3 : rl_pw m_planned m_planWay) : ∃ (r : Int32) (p_planned_size : Int32) (p_planned_lines : List Int32) (p_planned_ways : List Int32) (q_planned : Int32) (q_planLine : List Int32) (q_planWay : List Int32), fX8_plans 700 x1 x2 x3 v_planned_size v_planned_lines v_planned_ways v_shelves0_holds v_shelves0_sort v_shelves0_size v_shelves0_items v_shelves1_holds v_shelves1_sort v_shelves1_size v_shelves1_items v_shelves2_holds v_shelves2_sort v_shelves2_size v_shelves2_items v_shelves3_holds v_shelves3_sort v_shelves3_size v_shelves3_items v_shelves4_holds v_shelves4_sort v_shelves4_size v_shelves4_items v_shelves5_holds v_shelves5_sort v_shelves5_size v_shelves5_items = some (r, p_planned_size, p_planned_lines, p_planned_ways) ∧ fX9_plans 700 x1 x2 x3 m_planned m_planLine m_planWay m_shelf m_many m_items = some (r, q_planned, q_planLine, q_planWay) ∧ gi_pl p_planned_size p_planned_lines p_planned_ways ∧ gm_pl q_planned q_planLine q_planWay ∧ rl_sc v_foldings_size v_shelves0_holds v_shelves0_body v_shelves0_sort v_shelves0_size v_shelves1_holds v_shelves1_body v_shelves1_sort v_shelves1_size v_shelves2_holds v_shelves2_body v_shelves2_sort v_shelves2_size v_shelves3_holds v_shelves3_body v_shelves3_sort v_shelves3_size v_shelves4_holds v_shelves4_body v_shelves4_sort v_shelves4_size v_shelves5_holds v_shelves5_body v_shelves5_sort v_shelves5_size m_shelf m_many ∧ rl_it v_shelves0_items v_shelves1_items v_shelves2_items v_shelves3_items v_shelves4_items v_shelves5_items m_items ∧ rl_pl p_planned_size p_planned_lines p_planned_ways q_planned q_planLine q_planWay ∧ rl_pw q_planned q_planWay := by
  obtain ⟨b0, b1, -, -⟩ := id g9_0
  obtain ⟨r, u1, u2, u3, v1, v2, v3, e8, e9, k8, k9, h1, h2, h3⟩ := rs_plans (x1 := x1) (x2 := x2) (x3 := x3) g8_0 g8_1 g8_2 g8_3 g8_4 g8_5 g8_6 g9_0 g9_1 hr_0 hr_1 hr_2
  exact ⟨r, u1, u2, u3, v1, v2, v3, e8, e9, k8, k9, h1, h2, h3, p9_s b0 b1 hr_3 e9⟩
set_option maxHeartbeats 4000000 in
set_option maxRecDepth 20000 in
theorem rs_lies_tr {x1 : Int32} {x2 : Int32} {v_now_rows : Int32} {v_now_cols : Int32} {v_now_high : Int32} {v_now_wide : Int32} {v_now_folds : Int32} {v_now_wrong : Int32} {v_now_more : Int32} {v_now_rowOf : List Int32} {v_now_colOf : List Int32} {v_now_below : List Int32} {v_now_face : List Int32} {v_now_worn : List Int32} {v_now_last : List Int32} {v_wearing_stepCount : Int32} {v_wearing_stacked : Int32} {v_wearing_steps : List Int32} {v_wearing_stack : List Int32} {v_planned_size : Int32} {v_planned_trial_rows : Int32} {v_planned_trial_cols : Int32} {v_planned_trial_high : Int32} {v_planned_trial_wide : Int32} {v_planned_trial_folds : Int32} {v_planned_trial_wrong : Int32} {v_planned_trial_more : Int32} {v_planned_trial_rowOf : List Int32} {v_planned_trial_colOf : List Int32} {v_planned_trial_below : List Int32} {v_planned_trial_face : List Int32} {v_planned_trial_worn : List Int32} {v_planned_trial_last : List Int32} {v_planned_trial_bend : List Int32} {v_planned_trial_tall : List Int32} {v_planned_lines : List Int32} {v_planned_ways : List Int32} {v_changes_value : Int32} {v_now_bend : List Int32} {v_now_tall : List Int32} {v_wearing_size : Int32} {v_wearing_draftCount : Int32} {v_wearing_tape : List Int32} {v_wearing_draft : List Int32} {v_hasImage : Bool} {v_kept_rows : Int32} {v_kept_cols : Int32} {m_rowsOf : Int32} {m_columnsOf : Int32} {m_textMany : Int32} {m_base : Int32} {m_at : Int32} {m_ends : Int32} {m_fault : Int32} {m_opened : Int32} {m_bentMany : Int32} {m_bentWrong : Int32} {m_moreWorn : Int32} {m_planned : Int32} {m_allWrong : Int32} {m_allWorn : Int32} {m_z : Int32} {m_limit : List Int32} {m_shapeRows : List Int32} {m_shapeColumns : List Int32} {m_row : List Int32} {m_column : List Int32} {m_below : List Int32} {m_face : List Int32} {m_worn : List Int32} {m_lastBend : List Int32} {m_tape : List Int32} {m_text : List Int32} {m_names : List Int32} {m_bends : List Int32} {m_high : List Int32} {m_to : List Int32} {m_pileSize : List Int32} {m_planLine : List Int32} {m_planWay : List Int32} {m_keptMany : Int32} {m_done : Int32} {m_changeWas : List Int32} {m_changeIs : List Int32} {m_isKept : Bool} {m_imageRows : Int32} {m_imageColumns : Int32} {m_tapeMany : Int32} (g8_0 : gi_sh v_now_rows v_now_cols v_now_high v_now_wide v_now_rowOf v_now_colOf v_now_below v_now_face v_now_worn v_now_last v_now_bend v_now_tall) (g8_1 : gi_la v_wearing_size v_wearing_stepCount v_wearing_draftCount v_wearing_tape v_wearing_steps v_wearing_draft v_wearing_stack) (g8_2 : gi_pl v_planned_size v_planned_lines v_planned_ways) (g8_3 : gi_sh v_planned_trial_rows v_planned_trial_cols v_planned_trial_high v_planned_trial_wide v_planned_trial_rowOf v_planned_trial_colOf v_planned_trial_below v_planned_trial_face v_planned_trial_worn v_planned_trial_last v_planned_trial_bend v_planned_trial_tall) (g9_0 : gm_ch m_keptMany m_done m_limit m_changeWas m_changeIs) (g9_1 : gm_sh m_rowsOf m_columnsOf m_isKept m_imageRows m_imageColumns m_shapeRows m_shapeColumns m_row m_column m_below m_face m_worn m_lastBend) (g9_2 : gm_tx m_tapeMany m_textMany m_tape m_text m_names m_bends m_high m_to m_pileSize) (g9_3 : gm_pl m_planned m_planLine m_planWay) (hr_0 : rl_pl v_planned_size v_planned_lines v_planned_ways m_planned m_planLine m_planWay) (hr_1 : rl_dm v_now_rows v_now_cols v_hasImage v_kept_rows v_kept_cols m_rowsOf m_columnsOf m_isKept m_imageRows m_imageColumns) (hr_2 : rl_pw m_planned m_planWay) : ∃ (r : Int32) (p_wearing_stacked : Int32) (p_wearing_stack : List Int32) (p_planned_trial_rows : Int32) (p_planned_trial_cols : Int32) (p_planned_trial_high : Int32) (p_planned_trial_wide : Int32) (p_planned_trial_folds : Int32) (p_planned_trial_wrong : Int32) (p_planned_trial_more : Int32) (p_planned_trial_rowOf : List Int32) (p_planned_trial_colOf : List Int32) (p_planned_trial_below : List Int32) (p_planned_trial_face : List Int32) (p_planned_trial_worn : List Int32) (p_planned_trial_last : List Int32) (p_planned_trial_bend : List Int32) (p_planned_trial_tall : List Int32) (q_base : Int32) (q_at : Int32) (q_ends : Int32) (q_fault : Int32) (q_opened : Int32) (q_bentMany : Int32) (q_bentWrong : Int32) (q_moreWorn : Int32) (q_allWrong : Int32) (q_allWorn : Int32) (q_z : Int32) (q_shapeRows : List Int32) (q_shapeColumns : List Int32) (q_row : List Int32) (q_column : List Int32) (q_below : List Int32) (q_face : List Int32) (q_worn : List Int32) (q_lastBend : List Int32) (q_names : List Int32) (q_bends : List Int32) (q_high : List Int32) (q_to : List Int32) (q_pileSize : List Int32), fX8_lies 700 x1 x2 v_now_rows v_now_cols v_now_high v_now_wide v_now_folds v_now_wrong v_now_more v_now_rowOf v_now_colOf v_now_below v_now_face v_now_worn v_now_last v_wearing_stepCount v_wearing_stacked v_wearing_steps v_wearing_stack v_planned_size v_planned_trial_rows v_planned_trial_cols v_planned_trial_high v_planned_trial_wide v_planned_trial_folds v_planned_trial_wrong v_planned_trial_more v_planned_trial_rowOf v_planned_trial_colOf v_planned_trial_below v_planned_trial_face v_planned_trial_worn v_planned_trial_last v_planned_trial_bend v_planned_trial_tall v_planned_lines v_planned_ways v_changes_value = some (r, p_wearing_stacked, p_wearing_stack, p_planned_trial_rows, p_planned_trial_cols, p_planned_trial_high, p_planned_trial_wide, p_planned_trial_folds, p_planned_trial_wrong, p_planned_trial_more, p_planned_trial_rowOf, p_planned_trial_colOf, p_planned_trial_below, p_planned_trial_face, p_planned_trial_worn, p_planned_trial_last, p_planned_trial_bend, p_planned_trial_tall) ∧ fX9_lies 700 x1 x2 m_rowsOf m_columnsOf m_textMany m_base m_at m_ends m_fault m_opened m_bentMany m_bentWrong m_moreWorn m_planned m_allWrong m_allWorn m_z m_limit m_shapeRows m_shapeColumns m_row m_column m_below m_face m_worn m_lastBend m_tape m_text m_names m_bends m_high m_to m_pileSize m_planLine m_planWay = some (r, q_base, q_at, q_ends, q_fault, q_opened, q_bentMany, q_bentWrong, q_moreWorn, q_allWrong, q_allWorn, q_z, q_shapeRows, q_shapeColumns, q_row, q_column, q_below, q_face, q_worn, q_lastBend, q_names, q_bends, q_high, q_to, q_pileSize) ∧ gi_la v_wearing_size v_wearing_stepCount v_wearing_draftCount v_wearing_tape v_wearing_steps v_wearing_draft p_wearing_stack ∧ gi_sh p_planned_trial_rows p_planned_trial_cols p_planned_trial_high p_planned_trial_wide p_planned_trial_rowOf p_planned_trial_colOf p_planned_trial_below p_planned_trial_face p_planned_trial_worn p_planned_trial_last p_planned_trial_bend p_planned_trial_tall ∧ gm_sh m_rowsOf m_columnsOf m_isKept m_imageRows m_imageColumns q_shapeRows q_shapeColumns q_row q_column q_below q_face q_worn q_lastBend ∧ gm_tx m_tapeMany m_textMany m_tape m_text q_names q_bends q_high q_to q_pileSize ∧ rl_pl v_planned_size v_planned_lines v_planned_ways m_planned m_planLine m_planWay ∧ rl_dm v_now_rows v_now_cols v_hasImage v_kept_rows v_kept_cols m_rowsOf m_columnsOf m_isKept m_imageRows m_imageColumns ∧ rl_pw m_planned m_planWay := by
  obtain ⟨⟨r8, p_wearing_stacked, p_wearing_stack, p_planned_trial_rows, p_planned_trial_cols, p_planned_trial_high, p_planned_trial_wide, p_planned_trial_folds, p_planned_trial_wrong, p_planned_trial_more, p_planned_trial_rowOf, p_planned_trial_colOf, p_planned_trial_below, p_planned_trial_face, p_planned_trial_worn, p_planned_trial_last, p_planned_trial_bend, p_planned_trial_tall⟩, e8, -⟩ := st8_lies (x1 := x1) (x2 := x2) (v_now_folds := v_now_folds) (v_now_wrong := v_now_wrong) (v_now_more := v_now_more) (v_wearing_stacked := v_wearing_stacked) (v_planned_trial_folds := v_planned_trial_folds) (v_planned_trial_wrong := v_planned_trial_wrong) (v_planned_trial_more := v_planned_trial_more) (v_changes_value := v_changes_value) g8_0 g8_1 g8_2 g8_3
  obtain ⟨⟨r9, q_base, q_at, q_ends, q_fault, q_opened, q_bentMany, q_bentWrong, q_moreWorn, q_allWrong, q_allWorn, q_z, q_shapeRows, q_shapeColumns, q_row, q_column, q_below, q_face, q_worn, q_lastBend, q_names, q_bends, q_high, q_to, q_pileSize⟩, e9, -⟩ := st9_lies (x1 := x1) (x2 := x2) (v_base := m_base) (v_at := m_at) (v_ends := m_ends) (v_fault := m_fault) (v_opened := m_opened) (v_bentMany := m_bentMany) (v_bentWrong := m_bentWrong) (v_moreWorn := m_moreWorn) (v_allWrong := m_allWrong) (v_allWorn := m_allWorn) (v_z := m_z) g9_0 g9_1 g9_2 g9_3
  have k8 := wp_get (st8_lies g8_0 g8_1 g8_2 g8_3) e8
  have k9 := wp_get (st9_lies g9_0 g9_1 g9_2 g9_3) e9
  obtain ⟨a0, a1, a2, a3, a4, a5, a6, a7, a8, a9, a10, a11, a12, a13, a14, a15, a16, a17⟩ := id g8_0
  obtain ⟨-, -, c2, c3, -, -, -, c7, -, c9⟩ := id g8_1
  obtain ⟨-, -, p2, p3⟩ := id g8_2
  obtain ⟨z0, z1, z2, z3, z4, z5, z6, z7, z8, z9, z10, z11, z12, z13⟩ := id g9_1
  obtain ⟨-, -, -, -, -, -, -, -, t8, t9, t10⟩ := id g9_2
  obtain ⟨o0, o1, o2, o3⟩ := id g9_3
  obtain ⟨rfl, rfl, rfl⟩ := id hr_0
  obtain ⟨rfl, rfl, -, -⟩ := id hr_1
  have hf := i_fl a0 a1 a2 a3
  have n0 : (0 : Int32).toInt = 0 := by decide
  have n1 : (1 : Int32).toInt = 1 := by decide
  have n100 : (100 : Int32).toInt = 100 := by decide
  have y1 : (1 : Int32).toInt.toNat = 1 := by decide
  have m0 : (0 : Int64).toInt = 0 := by decide
  have m3 : (3 : Int64).toInt = 3 := by decide
  have LN : ln_w m_shapeRows m_shapeColumns m_row m_column m_below m_face m_high m_to m_pileSize := ⟨z4, z5, z6, z7, z8, z9, t8, t9, t10⟩
  have er : r9 = r8 := by
    have f8 := e8
    have f9 := e9
    rw [uf_X8_lies] at f8
    rw [uf_X9_lies] at f9
    by_cases c : x1 < 0
    · rw [if_pos c] at f8 f9
      apply mm_sub18 f8
      apply mm_sub25 f9
      rfl
    · have d := i_nlt c
      rw [if_neg c] at f8 f9
      replace f8 := ck_x f8
      replace f9 := ck_x f9
      have edv := i_divE (c := 100) (by decide) (by decide) (rfl : x1 / (100 : Int32) = _) (by omega)
      rw [hf_e, bs_1] at f8
      rw [ff_e (by omega), bs_1] at f9
      by_cases g : 0 ≤ (x1 / (100 : Int32)).toInt ∧ (x1 / (100 : Int32)).toInt < (m_rowsOf * m_columnsOf).toInt
      · rw [decide_eq_true g, if_neg (by decide)] at f8 f9
        replace f8 := ck_x f8
        replace f8 := mm_bd18s f8
        obtain ⟨u0, u1, u2, u3, u4, u5, u6, u7, u8, u9, u10, u11, u12, u13, u14, u15, u16, u17, eb8, f8⟩ := f8
        rw [wn_x, bs_1, i_64, m0, m3] at f9
        by_cases w : 0 ≤ x2.toInt ∧ x2.toInt ≤ 3
        · rw [decide_eq_true w, if_neg (by decide)] at f9
          replace f9 := ck_x f9
          replace f9 := mm_bd25s f9
          obtain ⟨v0, v1, v2, v3, v4, v5, v6, v7, v8, v9, v10, v11, v12, v13, v14, v15, v16, v17, v18, v19, v20, v21, v22, v23, v24, eb9, f9⟩ := f9
          obtain ⟨q1, q2⟩ := bh_e c2 c3 c7 c9 o3 o0 o1 hr_2 g8_3 g8_0 LN z10 z11 eb8 eb9
          subst q1
          by_cases h : v0 = false
          · rw [if_pos h] at f8 f9
            apply mm_sub18 f8
            apply mm_sub25 f9
            rfl
          · have h' : v0 = true := by
              cases hv : v0
              · exact absurd hv h
              · rfl
            rw [if_neg h] at f8 f9
            replace f8 := ck_x f8
            replace f9 := ck_x f9
            replace f8 := mm_bd1s f8
            obtain ⟨w8, ew8, f8⟩ := f8
            replace f9 := mm_bd1s f9
            obtain ⟨w9, ew9, f9⟩ := f9
            obtain ⟨j1, j2, j3, j4⟩ := q2 h'
            replace j1 := j1.symm
            replace j2 := j2.symm
            subst j1 j2
            have r8' := pw_e ew8
            have r9' := wo_e w ew9
            rw [if_pos g] at r8'
            rw [ix_e (by omega) (by omega) g.1 (by omega), y1] at r9'
            obtain ⟨v1', v2', v3', v4'⟩ := j4.2.2 (x1 / (100 : Int32)).toInt.toNat (by omega)
            rw [v1', v2', v3', v4'] at r9'
            apply mm_sub18 f8
            apply mm_sub25 f9
            rw [r8', r9']
        · rw [decide_eq_false w, if_pos rfl] at f9
          apply mm_sub25 f9
          by_cases h : u0 = false
          · rw [if_pos h] at f8
            apply mm_sub18 f8
            rfl
          · rw [if_neg h] at f8
            replace f8 := ck_x f8
            replace f8 := mm_bd1s f8
            obtain ⟨w8, ew8, f8⟩ := f8
            have r8' := pw_e ew8
            rw [wv_o w] at r8'
            apply mm_sub18 f8
            rw [r8']
            by_cases k : 0 ≤ (x1 / (100 : Int32)).toInt ∧ (x1 / (100 : Int32)).toInt < (u3 * u4).toInt
            · rw [if_pos k]
            · rw [if_neg k]
      · rw [decide_eq_false g, if_pos rfl] at f8 f9
        apply mm_sub18 f8
        apply mm_sub25 f9
        rfl
  subst er
  exact ⟨_, _, _, _, _, _, _, _, _, _, _, _, _, _, _, _, _, _, _, _, _, _, _, _, _, _, _, _, _, _, _, _, _, _, _, _, _, _, _, _, _, _, e8, e9, k8.1, k8.2, k9.1, k9.2, hr_0, hr_1, hr_2⟩
theorem hp_a {lv x hg wd : Int32} {sR sC : List Int32} {b8 b9 : Bool} (g1 : sR.getD lv.toInt.toNat 0 = hg) (g2 : sC.getD lv.toInt.toNat 0 = wd) (e8 : fX5_hasPile 700 x hg wd = some b8) (e9 : fX9_isPile 700 lv x sR sC = some b9) : b9 = b8 := by
  unfold fX5_hasPile at e8
  unfold fX9_isPile at e9
  by_cases c : x < 0
  · rw [if_pos c] at e8 e9
    exact (sm_i e9).symm.trans (sm_i e8)
  · rw [if_neg c] at e8 e9
    replace e8 := ck_x e8
    replace e9 := ck_x (ck_x e9)
    rw [ge_ig, g1] at e9
    by_cases d : hg ≤ (x / (10 : Int32))
    · rw [if_pos d] at e8 e9
      exact (sm_i e9).symm.trans (sm_i e8)
    · rw [if_neg d] at e8 e9
      replace e8 := ck_x e8
      replace e9 := ck_x (ck_x e9)
      rw [ge_ig, g2] at e9
      by_cases f : wd ≤ (mm_rem x (10 : Int32))
      · rw [if_pos f] at e8 e9
        exact (sm_i e9).symm.trans (sm_i e8)
      · rw [if_neg f] at e8 e9
        exact (sm_i e9).symm.trans (sm_i e8)
set_option maxHeartbeats 4000000 in
set_option maxRecDepth 20000 in
theorem rs_top_tr {x1 : Int32} {x2 : Int32} {v_now_rows : Int32} {v_now_cols : Int32} {v_now_high : Int32} {v_now_wide : Int32} {v_now_folds : Int32} {v_now_wrong : Int32} {v_now_more : Int32} {v_now_rowOf : List Int32} {v_now_colOf : List Int32} {v_now_below : List Int32} {v_now_face : List Int32} {v_now_worn : List Int32} {v_now_last : List Int32} {v_wearing_stepCount : Int32} {v_wearing_stacked : Int32} {v_wearing_steps : List Int32} {v_wearing_stack : List Int32} {v_planned_size : Int32} {v_planned_trial_rows : Int32} {v_planned_trial_cols : Int32} {v_planned_trial_high : Int32} {v_planned_trial_wide : Int32} {v_planned_trial_folds : Int32} {v_planned_trial_wrong : Int32} {v_planned_trial_more : Int32} {v_planned_trial_rowOf : List Int32} {v_planned_trial_colOf : List Int32} {v_planned_trial_below : List Int32} {v_planned_trial_face : List Int32} {v_planned_trial_worn : List Int32} {v_planned_trial_last : List Int32} {v_planned_trial_bend : List Int32} {v_planned_trial_tall : List Int32} {v_planned_lines : List Int32} {v_planned_ways : List Int32} {v_changes_value : Int32} {v_now_bend : List Int32} {v_now_tall : List Int32} {v_wearing_size : Int32} {v_wearing_draftCount : Int32} {v_wearing_tape : List Int32} {v_wearing_draft : List Int32} {v_hasImage : Bool} {v_kept_rows : Int32} {v_kept_cols : Int32} {m_rowsOf : Int32} {m_columnsOf : Int32} {m_textMany : Int32} {m_base : Int32} {m_at : Int32} {m_ends : Int32} {m_fault : Int32} {m_opened : Int32} {m_bentMany : Int32} {m_bentWrong : Int32} {m_moreWorn : Int32} {m_planned : Int32} {m_allWrong : Int32} {m_allWorn : Int32} {m_z : Int32} {m_limit : List Int32} {m_shapeRows : List Int32} {m_shapeColumns : List Int32} {m_row : List Int32} {m_column : List Int32} {m_below : List Int32} {m_face : List Int32} {m_worn : List Int32} {m_lastBend : List Int32} {m_tape : List Int32} {m_text : List Int32} {m_names : List Int32} {m_bends : List Int32} {m_high : List Int32} {m_to : List Int32} {m_pileSize : List Int32} {m_planLine : List Int32} {m_planWay : List Int32} {m_keptMany : Int32} {m_done : Int32} {m_changeWas : List Int32} {m_changeIs : List Int32} {m_isKept : Bool} {m_imageRows : Int32} {m_imageColumns : Int32} {m_tapeMany : Int32} (g8_0 : gi_sh v_now_rows v_now_cols v_now_high v_now_wide v_now_rowOf v_now_colOf v_now_below v_now_face v_now_worn v_now_last v_now_bend v_now_tall) (g8_1 : gi_la v_wearing_size v_wearing_stepCount v_wearing_draftCount v_wearing_tape v_wearing_steps v_wearing_draft v_wearing_stack) (g8_2 : gi_pl v_planned_size v_planned_lines v_planned_ways) (g8_3 : gi_sh v_planned_trial_rows v_planned_trial_cols v_planned_trial_high v_planned_trial_wide v_planned_trial_rowOf v_planned_trial_colOf v_planned_trial_below v_planned_trial_face v_planned_trial_worn v_planned_trial_last v_planned_trial_bend v_planned_trial_tall) (g9_0 : gm_ch m_keptMany m_done m_limit m_changeWas m_changeIs) (g9_1 : gm_sh m_rowsOf m_columnsOf m_isKept m_imageRows m_imageColumns m_shapeRows m_shapeColumns m_row m_column m_below m_face m_worn m_lastBend) (g9_2 : gm_tx m_tapeMany m_textMany m_tape m_text m_names m_bends m_high m_to m_pileSize) (g9_3 : gm_pl m_planned m_planLine m_planWay) (hr_0 : rl_pl v_planned_size v_planned_lines v_planned_ways m_planned m_planLine m_planWay) (hr_1 : rl_dm v_now_rows v_now_cols v_hasImage v_kept_rows v_kept_cols m_rowsOf m_columnsOf m_isKept m_imageRows m_imageColumns) (hr_2 : rl_pw m_planned m_planWay) : ∃ (r : Int32) (p_wearing_stacked : Int32) (p_wearing_stack : List Int32) (p_planned_trial_rows : Int32) (p_planned_trial_cols : Int32) (p_planned_trial_high : Int32) (p_planned_trial_wide : Int32) (p_planned_trial_folds : Int32) (p_planned_trial_wrong : Int32) (p_planned_trial_more : Int32) (p_planned_trial_rowOf : List Int32) (p_planned_trial_colOf : List Int32) (p_planned_trial_below : List Int32) (p_planned_trial_face : List Int32) (p_planned_trial_worn : List Int32) (p_planned_trial_last : List Int32) (p_planned_trial_bend : List Int32) (p_planned_trial_tall : List Int32) (q_base : Int32) (q_at : Int32) (q_ends : Int32) (q_fault : Int32) (q_opened : Int32) (q_bentMany : Int32) (q_bentWrong : Int32) (q_moreWorn : Int32) (q_allWrong : Int32) (q_allWorn : Int32) (q_z : Int32) (q_shapeRows : List Int32) (q_shapeColumns : List Int32) (q_row : List Int32) (q_column : List Int32) (q_below : List Int32) (q_face : List Int32) (q_worn : List Int32) (q_lastBend : List Int32) (q_names : List Int32) (q_bends : List Int32) (q_high : List Int32) (q_to : List Int32) (q_pileSize : List Int32), fX8_top 700 x1 x2 v_now_rows v_now_cols v_now_high v_now_wide v_now_folds v_now_wrong v_now_more v_now_rowOf v_now_colOf v_now_below v_now_face v_now_worn v_now_last v_wearing_stepCount v_wearing_stacked v_wearing_steps v_wearing_stack v_planned_size v_planned_trial_rows v_planned_trial_cols v_planned_trial_high v_planned_trial_wide v_planned_trial_folds v_planned_trial_wrong v_planned_trial_more v_planned_trial_rowOf v_planned_trial_colOf v_planned_trial_below v_planned_trial_face v_planned_trial_worn v_planned_trial_last v_planned_trial_bend v_planned_trial_tall v_planned_lines v_planned_ways v_changes_value = some (r, p_wearing_stacked, p_wearing_stack, p_planned_trial_rows, p_planned_trial_cols, p_planned_trial_high, p_planned_trial_wide, p_planned_trial_folds, p_planned_trial_wrong, p_planned_trial_more, p_planned_trial_rowOf, p_planned_trial_colOf, p_planned_trial_below, p_planned_trial_face, p_planned_trial_worn, p_planned_trial_last, p_planned_trial_bend, p_planned_trial_tall) ∧ fX9_top 700 x1 x2 m_rowsOf m_columnsOf m_textMany m_base m_at m_ends m_fault m_opened m_bentMany m_bentWrong m_moreWorn m_planned m_allWrong m_allWorn m_z m_limit m_shapeRows m_shapeColumns m_row m_column m_below m_face m_worn m_lastBend m_tape m_text m_names m_bends m_high m_to m_pileSize m_planLine m_planWay = some (r, q_base, q_at, q_ends, q_fault, q_opened, q_bentMany, q_bentWrong, q_moreWorn, q_allWrong, q_allWorn, q_z, q_shapeRows, q_shapeColumns, q_row, q_column, q_below, q_face, q_worn, q_lastBend, q_names, q_bends, q_high, q_to, q_pileSize) ∧ gi_la v_wearing_size v_wearing_stepCount v_wearing_draftCount v_wearing_tape v_wearing_steps v_wearing_draft p_wearing_stack ∧ gi_sh p_planned_trial_rows p_planned_trial_cols p_planned_trial_high p_planned_trial_wide p_planned_trial_rowOf p_planned_trial_colOf p_planned_trial_below p_planned_trial_face p_planned_trial_worn p_planned_trial_last p_planned_trial_bend p_planned_trial_tall ∧ gm_sh m_rowsOf m_columnsOf m_isKept m_imageRows m_imageColumns q_shapeRows q_shapeColumns q_row q_column q_below q_face q_worn q_lastBend ∧ gm_tx m_tapeMany m_textMany m_tape m_text q_names q_bends q_high q_to q_pileSize ∧ rl_pl v_planned_size v_planned_lines v_planned_ways m_planned m_planLine m_planWay ∧ rl_dm v_now_rows v_now_cols v_hasImage v_kept_rows v_kept_cols m_rowsOf m_columnsOf m_isKept m_imageRows m_imageColumns ∧ rl_pw m_planned m_planWay := by
  obtain ⟨⟨r8, p_wearing_stacked, p_wearing_stack, p_planned_trial_rows, p_planned_trial_cols, p_planned_trial_high, p_planned_trial_wide, p_planned_trial_folds, p_planned_trial_wrong, p_planned_trial_more, p_planned_trial_rowOf, p_planned_trial_colOf, p_planned_trial_below, p_planned_trial_face, p_planned_trial_worn, p_planned_trial_last, p_planned_trial_bend, p_planned_trial_tall⟩, e8, -⟩ := st8_top (x1 := x1) (x2 := x2) (v_now_folds := v_now_folds) (v_now_wrong := v_now_wrong) (v_now_more := v_now_more) (v_wearing_stacked := v_wearing_stacked) (v_planned_trial_folds := v_planned_trial_folds) (v_planned_trial_wrong := v_planned_trial_wrong) (v_planned_trial_more := v_planned_trial_more) (v_changes_value := v_changes_value) g8_0 g8_1 g8_2 g8_3
  obtain ⟨⟨r9, q_base, q_at, q_ends, q_fault, q_opened, q_bentMany, q_bentWrong, q_moreWorn, q_allWrong, q_allWorn, q_z, q_shapeRows, q_shapeColumns, q_row, q_column, q_below, q_face, q_worn, q_lastBend, q_names, q_bends, q_high, q_to, q_pileSize⟩, e9, -⟩ := st9_top (x1 := x1) (x2 := x2) (v_base := m_base) (v_at := m_at) (v_ends := m_ends) (v_fault := m_fault) (v_opened := m_opened) (v_bentMany := m_bentMany) (v_bentWrong := m_bentWrong) (v_moreWorn := m_moreWorn) (v_allWrong := m_allWrong) (v_allWorn := m_allWorn) (v_z := m_z) g9_0 g9_1 g9_2 g9_3
  have k8 := wp_get (st8_top g8_0 g8_1 g8_2 g8_3) e8
  have k9 := wp_get (st9_top g9_0 g9_1 g9_2 g9_3) e9
  obtain ⟨a0, a1, a2, a3, a4, a5, a6, a7, a8, a9, a10, a11, a12, a13, a14, a15, a16, a17⟩ := id g8_0
  obtain ⟨-, -, c2, c3, -, -, -, c7, -, c9⟩ := id g8_1
  obtain ⟨-, -, p2, p3⟩ := id g8_2
  obtain ⟨z0, z1, z2, z3, z4, z5, z6, z7, z8, z9, z10, z11, z12, z13⟩ := id g9_1
  obtain ⟨-, -, -, -, -, -, -, -, t8, t9, t10⟩ := id g9_2
  obtain ⟨o0, o1, o2, o3⟩ := id g9_3
  obtain ⟨rfl, rfl, rfl⟩ := id hr_0
  obtain ⟨rfl, rfl, -, -⟩ := id hr_1
  have hf := i_fl a0 a1 a2 a3
  have n0 : (0 : Int32).toInt = 0 := by decide
  have n1 : (1 : Int32).toInt = 1 := by decide
  have n100 : (100 : Int32).toInt = 100 := by decide
  have y1 : (1 : Int32).toInt.toNat = 1 := by decide
  have m0 : (0 : Int64).toInt = 0 := by decide
  have m3 : (3 : Int64).toInt = 3 := by decide
  have LN : ln_w m_shapeRows m_shapeColumns m_row m_column m_below m_face m_high m_to m_pileSize := ⟨z4, z5, z6, z7, z8, z9, t8, t9, t10⟩
  have er : r9 = r8 := by
    have f8 := e8
    have f9 := e9
    rw [uf_X8_top] at f8
    rw [uf_X9_top] at f9
    replace f8 := mm_bd18s f8
    obtain ⟨u0, u1, u2, u3, u4, u5, u6, u7, u8, u9, u10, u11, u12, u13, u14, u15, u16, u17, eb8, f8⟩ := f8
    replace f9 := mm_bd25s f9
    obtain ⟨v0, v1, v2, v3, v4, v5, v6, v7, v8, v9, v10, v11, v12, v13, v14, v15, v16, v17, v18, v19, v20, v21, v22, v23, v24, eb9, f9⟩ := f9
    obtain ⟨q1, q2⟩ := bh_e c2 c3 c7 c9 o3 o0 o1 hr_2 g8_3 g8_0 LN z10 z11 eb8 eb9
    subst q1
    by_cases h : v0 = false
    · rw [if_pos h] at f8 f9
      apply mm_sub18 f8
      apply mm_sub25 f9
      rfl
    · have h' : v0 = true := by
        cases hv : v0
        · exact absurd hv h
        · rfl
      rw [if_neg h] at f8 f9
      obtain ⟨j1, j2, j3, j4⟩ := q2 h'
      replace j1 := j1.symm
      replace j2 := j2.symm
      subst j1 j2
      obtain ⟨l1, l2, l3⟩ := j4
      replace f8 := mm_bd1s f8
      obtain ⟨b8, ep8, f8⟩ := f8
      replace f9 := mm_bd1s f9
      obtain ⟨b9, ep9, f9⟩ := f9
      have hp : b9 = b8 := hp_a (by rw [y1]; exact l1) (by rw [y1]; exact l2) ep8 ep9
      subst hp
      by_cases k : b9 = false
      · rw [if_pos k] at f8 f9
        apply mm_sub18 f8
        apply mm_sub25 f9
        rfl
      · rw [if_neg k] at f8 f9
        replace f8 := ck_x (ck_x f8)
        replace f9 := ck_x (ck_x f9)
        replace f8 := mm_bd1s f8
        obtain ⟨w8, ew8, f8⟩ := f8
        replace f9 := mm_bd1s f9
        obtain ⟨w9, ew9, f9⟩ := f9
        have q := ta_a (m := (m_rowsOf.toInt * m_columnsOf.toInt).toNat) (lv := (1 : Int32)) (by omega) (by omega) (by omega) (by omega) (by rw [y1]; exact fun k hk => ⟨(l3 k hk).1, (l3 k hk).2.1, (l3 k hk).2.2.1⟩) ew8 ew9
        apply mm_sub18 f8
        apply mm_sub25 f9
        exact q
  subst er
  exact ⟨_, _, _, _, _, _, _, _, _, _, _, _, _, _, _, _, _, _, _, _, _, _, _, _, _, _, _, _, _, _, _, _, _, _, _, _, _, _, _, _, _, _, e8, e9, k8.1, k8.2, k9.1, k9.2, hr_0, hr_1, hr_2⟩
end
section
/-! A plan tried: beside -/
theorem tt_a {x y rows cols : Int32} {b8 : Bool} {R C B row col bel : List Int32} {m : Nat} (hm : (rows * cols).toInt = m) (m32 : m ≤ 32) (H : lh_w m 32 R C B row col bel) (rr : ∀ k : Nat, k < m → 0 ≤ (R.getD k 0).toInt ∧ (R.getD k 0).toInt < 4) (rc : ∀ k : Nat, k < m → 0 ≤ (C.getD k 0).toInt ∧ (C.getD k 0).toInt < 8) (x0 : 0 ≤ x.toInt) (x1 : x.toInt < m) (y0 : 0 ≤ y.toInt) (y1 : y.toInt < m) (e8 : fX5_topsTouch 700 x y rows cols R C B = some b8) : ((((mm_ig row ((32 : Int32) + x)) - (mm_ig row ((32 : Int32) + y))) * ((mm_ig row ((32 : Int32) + x)) - (mm_ig row ((32 : Int32) + y)))) + (((mm_ig col ((32 : Int32) + x)) - (mm_ig col ((32 : Int32) + y))) * ((mm_ig col ((32 : Int32) + x)) - (mm_ig col ((32 : Int32) + y)))) = (1 : Int32) → ∃ c8 d8 : Bool, fX5_isTop 700 x rows cols R C B = some c8 ∧ (c8 = false → b8 = false) ∧ (c8 = true → fX5_isTop 700 y rows cols R C B = some d8 ∧ b8 = d8)) ∧ (¬ (((mm_ig row ((32 : Int32) + x)) - (mm_ig row ((32 : Int32) + y))) * ((mm_ig row ((32 : Int32) + x)) - (mm_ig row ((32 : Int32) + y)))) + (((mm_ig col ((32 : Int32) + x)) - (mm_ig col ((32 : Int32) + y))) * ((mm_ig col ((32 : Int32) + x)) - (mm_ig col ((32 : Int32) + y)))) = (1 : Int32) → b8 = false) := by
  have n32 : (32 : Int32).toInt = 32 := by decide
  have n1 : (1 : Int32).toInt = 1 := by decide
  obtain ⟨q1, q2, -⟩ := H x.toInt.toNat (by omega)
  obtain ⟨q3, q4, -⟩ := H y.toInt.toNat (by omega)
  have ix : ((32 : Int32) + x).toInt.toNat = 32 + x.toInt.toNat := by
    generalize hz : (32 : Int32) + x = z
    have ez := i_addE hz (by omega) (by omega)
    omega
  have iy : ((32 : Int32) + y).toInt.toNat = 32 + y.toInt.toNat := by
    generalize hz : (32 : Int32) + y = z
    have ez := i_addE hz (by omega) (by omega)
    omega
  have h1 : mm_ig row ((32 : Int32) + x) = mm_ig R x := by rw [ge_ig, ix]; exact q1
  have h2 : mm_ig col ((32 : Int32) + x) = mm_ig C x := by rw [ge_ig, ix]; exact q2
  have h3 : mm_ig row ((32 : Int32) + y) = mm_ig R y := by rw [ge_ig, iy]; exact q3
  have h4 : mm_ig col ((32 : Int32) + y) = mm_ig C y := by rw [ge_ig, iy]; exact q4
  rw [h1, h2, h3, h4]
  unfold fX5_topsTouch at e8
  replace e8 := ck_x (ck_x (ck_x (ck_x e8)))
  rw [nm_eq] at e8
  have r1 := rr x.toInt.toNat (by omega)
  have r2 := rr y.toInt.toNat (by omega)
  have r3 := rc x.toInt.toNat (by omega)
  have r4 := rc y.toInt.toNat (by omega)
  rw [← ge_ig] at r1 r2 r3 r4
  generalize ha : mm_ig R x - mm_ig R y = a at e8 ⊢
  generalize hc : mm_ig C x - mm_ig C y = c at e8 ⊢
  have ea := i_subE ha (by omega) (by omega)
  have ec := i_subE hc (by omega) (by omega)
  have b1 := ab_e (x := a) (by omega) (by omega)
  have b2 := ab_e (x := c) (by omega) (by omega)
  have sq := sq_e (a := a.toInt) (c := c.toInt) (by omega) (by omega) (by omega) (by omega)
  have P : ((a * a) + (c * c) = (1 : Int32)) ↔ (mm_abs a + mm_abs c = (1 : Int32)) := by
    have u1 : a.toInt * a.toInt ≤ 49 ∧ 0 ≤ a.toInt * a.toInt := by
      have k : a.toInt.natAbs ≤ 7 := by omega
      have k2 : a.toInt.natAbs * a.toInt.natAbs ≤ 7 * 7 := Nat.mul_le_mul k k
      have k3 : ((a.toInt.natAbs * a.toInt.natAbs : Nat) : Int) = a.toInt * a.toInt := Int.natAbs_mul_self
      omega
    have u2 : c.toInt * c.toInt ≤ 49 ∧ 0 ≤ c.toInt * c.toInt := by
      have k : c.toInt.natAbs ≤ 7 := by omega
      have k2 : c.toInt.natAbs * c.toInt.natAbs ≤ 7 * 7 := Nat.mul_le_mul k k
      have k3 : ((c.toInt.natAbs * c.toInt.natAbs : Nat) : Int) = c.toInt * c.toInt := Int.natAbs_mul_self
      omega
    have v1 : (a * a).toInt = a.toInt * a.toInt := i_mul (by omega) (by omega)
    have v2 : (c * c).toInt = c.toInt * c.toInt := i_mul (by omega) (by omega)
    rw [← Int32.toInt_inj, ← Int32.toInt_inj, n1]
    generalize hs : (a * a) + (c * c) = s
    have es := i_addE hs (by omega) (by omega)
    generalize ht : mm_abs a + mm_abs c = t
    have et := i_addE ht (by omega) (by omega)
    rw [es, et, v1, v2, b1, b2, sq]
    omega
  refine ⟨fun hp => ?_, fun hn => ?_⟩
  · rw [if_pos (P.mp hp)] at e8
    replace e8 := mm_bd1s e8
    obtain ⟨c8, ec8, e8⟩ := e8
    by_cases k : c8 = false
    · rw [if_pos k] at e8
      exact ⟨c8, false, ec8, fun _ => (sm_i e8).symm, fun h => absurd (k.symm.trans h) (by decide)⟩
    · rw [if_neg k] at e8
      replace e8 := mm_bd1s e8
      obtain ⟨d8, ed8, e8⟩ := e8
      refine ⟨c8, d8, ec8, fun h => absurd h k, fun _ => ⟨ed8, ?_⟩⟩
      by_cases k2 : d8 = false
      · rw [if_pos k2] at e8
        rw [k2]
        exact (sm_i e8).symm
      · rw [if_neg k2] at e8
        have : d8 = true := by
          cases hv : d8
          · exact absurd hv k2
          · rfl
        rw [this]
        exact (sm_i e8).symm
  · rw [if_neg (fun h => hn (P.mpr h))] at e8
    exact (sm_i e8).symm
set_option maxHeartbeats 4000000 in
set_option maxRecDepth 20000 in
theorem rs_beside_tr {x1 : Int32} {x2 : Int32} {v_now_rows : Int32} {v_now_cols : Int32} {v_now_high : Int32} {v_now_wide : Int32} {v_now_folds : Int32} {v_now_wrong : Int32} {v_now_more : Int32} {v_now_rowOf : List Int32} {v_now_colOf : List Int32} {v_now_below : List Int32} {v_now_face : List Int32} {v_now_worn : List Int32} {v_now_last : List Int32} {v_wearing_stepCount : Int32} {v_wearing_stacked : Int32} {v_wearing_steps : List Int32} {v_wearing_stack : List Int32} {v_planned_size : Int32} {v_planned_trial_rows : Int32} {v_planned_trial_cols : Int32} {v_planned_trial_high : Int32} {v_planned_trial_wide : Int32} {v_planned_trial_folds : Int32} {v_planned_trial_wrong : Int32} {v_planned_trial_more : Int32} {v_planned_trial_rowOf : List Int32} {v_planned_trial_colOf : List Int32} {v_planned_trial_below : List Int32} {v_planned_trial_face : List Int32} {v_planned_trial_worn : List Int32} {v_planned_trial_last : List Int32} {v_planned_trial_bend : List Int32} {v_planned_trial_tall : List Int32} {v_planned_lines : List Int32} {v_planned_ways : List Int32} {v_changes_value : Int32} {v_now_bend : List Int32} {v_now_tall : List Int32} {v_wearing_size : Int32} {v_wearing_draftCount : Int32} {v_wearing_tape : List Int32} {v_wearing_draft : List Int32} {v_hasImage : Bool} {v_kept_rows : Int32} {v_kept_cols : Int32} {m_rowsOf : Int32} {m_columnsOf : Int32} {m_textMany : Int32} {m_base : Int32} {m_at : Int32} {m_ends : Int32} {m_fault : Int32} {m_opened : Int32} {m_bentMany : Int32} {m_bentWrong : Int32} {m_moreWorn : Int32} {m_planned : Int32} {m_allWrong : Int32} {m_allWorn : Int32} {m_z : Int32} {m_limit : List Int32} {m_shapeRows : List Int32} {m_shapeColumns : List Int32} {m_row : List Int32} {m_column : List Int32} {m_below : List Int32} {m_face : List Int32} {m_worn : List Int32} {m_lastBend : List Int32} {m_tape : List Int32} {m_text : List Int32} {m_names : List Int32} {m_bends : List Int32} {m_high : List Int32} {m_to : List Int32} {m_pileSize : List Int32} {m_planLine : List Int32} {m_planWay : List Int32} {m_keptMany : Int32} {m_done : Int32} {m_changeWas : List Int32} {m_changeIs : List Int32} {m_isKept : Bool} {m_imageRows : Int32} {m_imageColumns : Int32} {m_tapeMany : Int32} (g8_0 : gi_sh v_now_rows v_now_cols v_now_high v_now_wide v_now_rowOf v_now_colOf v_now_below v_now_face v_now_worn v_now_last v_now_bend v_now_tall) (g8_1 : gi_la v_wearing_size v_wearing_stepCount v_wearing_draftCount v_wearing_tape v_wearing_steps v_wearing_draft v_wearing_stack) (g8_2 : gi_pl v_planned_size v_planned_lines v_planned_ways) (g8_3 : gi_sh v_planned_trial_rows v_planned_trial_cols v_planned_trial_high v_planned_trial_wide v_planned_trial_rowOf v_planned_trial_colOf v_planned_trial_below v_planned_trial_face v_planned_trial_worn v_planned_trial_last v_planned_trial_bend v_planned_trial_tall) (g9_0 : gm_ch m_keptMany m_done m_limit m_changeWas m_changeIs) (g9_1 : gm_sh m_rowsOf m_columnsOf m_isKept m_imageRows m_imageColumns m_shapeRows m_shapeColumns m_row m_column m_below m_face m_worn m_lastBend) (g9_2 : gm_tx m_tapeMany m_textMany m_tape m_text m_names m_bends m_high m_to m_pileSize) (g9_3 : gm_pl m_planned m_planLine m_planWay) (hr_0 : rl_pl v_planned_size v_planned_lines v_planned_ways m_planned m_planLine m_planWay) (hr_1 : rl_dm v_now_rows v_now_cols v_hasImage v_kept_rows v_kept_cols m_rowsOf m_columnsOf m_isKept m_imageRows m_imageColumns) (hr_2 : rl_pw m_planned m_planWay) : ∃ (r : Int32) (p_wearing_stacked : Int32) (p_wearing_stack : List Int32) (p_planned_trial_rows : Int32) (p_planned_trial_cols : Int32) (p_planned_trial_high : Int32) (p_planned_trial_wide : Int32) (p_planned_trial_folds : Int32) (p_planned_trial_wrong : Int32) (p_planned_trial_more : Int32) (p_planned_trial_rowOf : List Int32) (p_planned_trial_colOf : List Int32) (p_planned_trial_below : List Int32) (p_planned_trial_face : List Int32) (p_planned_trial_worn : List Int32) (p_planned_trial_last : List Int32) (p_planned_trial_bend : List Int32) (p_planned_trial_tall : List Int32) (q_base : Int32) (q_at : Int32) (q_ends : Int32) (q_fault : Int32) (q_opened : Int32) (q_bentMany : Int32) (q_bentWrong : Int32) (q_moreWorn : Int32) (q_allWrong : Int32) (q_allWorn : Int32) (q_z : Int32) (q_shapeRows : List Int32) (q_shapeColumns : List Int32) (q_row : List Int32) (q_column : List Int32) (q_below : List Int32) (q_face : List Int32) (q_worn : List Int32) (q_lastBend : List Int32) (q_names : List Int32) (q_bends : List Int32) (q_high : List Int32) (q_to : List Int32) (q_pileSize : List Int32), fX8_beside 700 x1 x2 v_now_rows v_now_cols v_now_high v_now_wide v_now_folds v_now_wrong v_now_more v_now_rowOf v_now_colOf v_now_below v_now_face v_now_worn v_now_last v_wearing_stepCount v_wearing_stacked v_wearing_steps v_wearing_stack v_planned_size v_planned_trial_rows v_planned_trial_cols v_planned_trial_high v_planned_trial_wide v_planned_trial_folds v_planned_trial_wrong v_planned_trial_more v_planned_trial_rowOf v_planned_trial_colOf v_planned_trial_below v_planned_trial_face v_planned_trial_worn v_planned_trial_last v_planned_trial_bend v_planned_trial_tall v_planned_lines v_planned_ways v_changes_value = some (r, p_wearing_stacked, p_wearing_stack, p_planned_trial_rows, p_planned_trial_cols, p_planned_trial_high, p_planned_trial_wide, p_planned_trial_folds, p_planned_trial_wrong, p_planned_trial_more, p_planned_trial_rowOf, p_planned_trial_colOf, p_planned_trial_below, p_planned_trial_face, p_planned_trial_worn, p_planned_trial_last, p_planned_trial_bend, p_planned_trial_tall) ∧ fX9_beside 700 x1 x2 m_rowsOf m_columnsOf m_textMany m_base m_at m_ends m_fault m_opened m_bentMany m_bentWrong m_moreWorn m_planned m_allWrong m_allWorn m_z m_limit m_shapeRows m_shapeColumns m_row m_column m_below m_face m_worn m_lastBend m_tape m_text m_names m_bends m_high m_to m_pileSize m_planLine m_planWay = some (r, q_base, q_at, q_ends, q_fault, q_opened, q_bentMany, q_bentWrong, q_moreWorn, q_allWrong, q_allWorn, q_z, q_shapeRows, q_shapeColumns, q_row, q_column, q_below, q_face, q_worn, q_lastBend, q_names, q_bends, q_high, q_to, q_pileSize) ∧ gi_la v_wearing_size v_wearing_stepCount v_wearing_draftCount v_wearing_tape v_wearing_steps v_wearing_draft p_wearing_stack ∧ gi_sh p_planned_trial_rows p_planned_trial_cols p_planned_trial_high p_planned_trial_wide p_planned_trial_rowOf p_planned_trial_colOf p_planned_trial_below p_planned_trial_face p_planned_trial_worn p_planned_trial_last p_planned_trial_bend p_planned_trial_tall ∧ gm_sh m_rowsOf m_columnsOf m_isKept m_imageRows m_imageColumns q_shapeRows q_shapeColumns q_row q_column q_below q_face q_worn q_lastBend ∧ gm_tx m_tapeMany m_textMany m_tape m_text q_names q_bends q_high q_to q_pileSize ∧ rl_pl v_planned_size v_planned_lines v_planned_ways m_planned m_planLine m_planWay ∧ rl_dm v_now_rows v_now_cols v_hasImage v_kept_rows v_kept_cols m_rowsOf m_columnsOf m_isKept m_imageRows m_imageColumns ∧ rl_pw m_planned m_planWay := by
  obtain ⟨⟨r8, p_wearing_stacked, p_wearing_stack, p_planned_trial_rows, p_planned_trial_cols, p_planned_trial_high, p_planned_trial_wide, p_planned_trial_folds, p_planned_trial_wrong, p_planned_trial_more, p_planned_trial_rowOf, p_planned_trial_colOf, p_planned_trial_below, p_planned_trial_face, p_planned_trial_worn, p_planned_trial_last, p_planned_trial_bend, p_planned_trial_tall⟩, e8, -⟩ := st8_beside (x1 := x1) (x2 := x2) (v_now_folds := v_now_folds) (v_now_wrong := v_now_wrong) (v_now_more := v_now_more) (v_wearing_stacked := v_wearing_stacked) (v_planned_trial_folds := v_planned_trial_folds) (v_planned_trial_wrong := v_planned_trial_wrong) (v_planned_trial_more := v_planned_trial_more) (v_changes_value := v_changes_value) g8_0 g8_1 g8_2 g8_3
  obtain ⟨⟨r9, q_base, q_at, q_ends, q_fault, q_opened, q_bentMany, q_bentWrong, q_moreWorn, q_allWrong, q_allWorn, q_z, q_shapeRows, q_shapeColumns, q_row, q_column, q_below, q_face, q_worn, q_lastBend, q_names, q_bends, q_high, q_to, q_pileSize⟩, e9, -⟩ := st9_beside (x1 := x1) (x2 := x2) (v_base := m_base) (v_at := m_at) (v_ends := m_ends) (v_fault := m_fault) (v_opened := m_opened) (v_bentMany := m_bentMany) (v_bentWrong := m_bentWrong) (v_moreWorn := m_moreWorn) (v_allWrong := m_allWrong) (v_allWorn := m_allWorn) (v_z := m_z) g9_0 g9_1 g9_2 g9_3
  have k8 := wp_get (st8_beside g8_0 g8_1 g8_2 g8_3) e8
  have k9 := wp_get (st9_beside g9_0 g9_1 g9_2 g9_3) e9
  obtain ⟨a0, a1, a2, a3, a4, a5, a6, a7, a8, a9, a10, a11, a12, a13, a14, a15, a16, a17⟩ := id g8_0
  obtain ⟨-, -, c2, c3, -, -, -, c7, -, c9⟩ := id g8_1
  obtain ⟨-, -, p2, p3⟩ := id g8_2
  obtain ⟨z0, z1, z2, z3, z4, z5, z6, z7, z8, z9, z10, z11, z12, z13⟩ := id g9_1
  obtain ⟨-, -, -, -, -, -, -, -, t8, t9, t10⟩ := id g9_2
  obtain ⟨o0, o1, o2, o3⟩ := id g9_3
  obtain ⟨rfl, rfl, rfl⟩ := id hr_0
  obtain ⟨rfl, rfl, -, -⟩ := id hr_1
  have hf := i_fl a0 a1 a2 a3
  have n0 : (0 : Int32).toInt = 0 := by decide
  have n1 : (1 : Int32).toInt = 1 := by decide
  have n100 : (100 : Int32).toInt = 100 := by decide
  have y1 : (1 : Int32).toInt.toNat = 1 := by decide
  have m0 : (0 : Int64).toInt = 0 := by decide
  have m3 : (3 : Int64).toInt = 3 := by decide
  have LN : ln_w m_shapeRows m_shapeColumns m_row m_column m_below m_face m_high m_to m_pileSize := ⟨z4, z5, z6, z7, z8, z9, t8, t9, t10⟩
  have er : r9 = r8 := by
    have f8 := e8
    have f9 := e9
    rw [uf_X8_beside] at f8
    rw [uf_X9_beside] at f9
    by_cases c : x2 < 0
    · have d := i_lt c
      rw [if_neg (fun h => absurd (i_le h) (by omega))] at f8
      rw [if_pos c] at f9
      apply mm_sub18 f8
      apply mm_sub25 f9
      rfl
    · have d := i_nlt c
      rw [if_pos (Int32.not_lt.mp c)] at f8
      rw [if_neg c] at f9
      replace f8 := ck_x f8
      rw [nm_eq] at f8
      replace f8 := ck_x f8
      rw [nm_eq] at f8
      replace f9 := ck_x f9
      rw [ff_e (by omega), bs_1] at f9
      generalize x2 / (100 : Int32) = a at f8 f9
      generalize mm_rem x2 (100 : Int32) = b at f8 f9
      by_cases g1 : 0 ≤ a.toInt ∧ a.toInt < (m_rowsOf * m_columnsOf).toInt
      · rw [decide_eq_true g1, if_neg (by decide)] at f9
        replace f9 := ck_x f9
        rw [ff_e (by omega), bs_1] at f9
        by_cases g2 : 0 ≤ b.toInt ∧ b.toInt < (m_rowsOf * m_columnsOf).toInt
        · rw [decide_eq_true g2, if_neg (by decide)] at f9
          replace f9 := ck_x (ck_x f9)
          by_cases g3 : a = b
          · rw [if_pos g3] at f8 f9
            apply mm_sub18 f8
            apply mm_sub25 f9
            rfl
          · rw [if_neg g3] at f8 f9
            rw [hf_e, bs_1, decide_eq_true g1, if_neg (by decide), hf_e, bs_1, decide_eq_true g2, if_neg (by decide)] at f8
            replace f8 := mm_bd18s f8
            obtain ⟨u0, u1, u2, u3, u4, u5, u6, u7, u8, u9, u10, u11, u12, u13, u14, u15, u16, u17, eb8, f8⟩ := f8
            replace f9 := mm_bd25s f9
            obtain ⟨v0, v1, v2, v3, v4, v5, v6, v7, v8, v9, v10, v11, v12, v13, v14, v15, v16, v17, v18, v19, v20, v21, v22, v23, v24, eb9, f9⟩ := f9
            obtain ⟨q1, q2⟩ := bh_e c2 c3 c7 c9 o3 o0 o1 hr_2 g8_3 g8_0 LN z10 z11 eb8 eb9
            subst q1
            by_cases h : v0 = false
            · rw [if_pos h] at f8 f9
              apply mm_sub18 f8
              apply mm_sub25 f9
              rfl
            · have h' : v0 = true := by
                cases hv : v0
                · exact absurd hv h
                · rfl
              rw [if_neg h] at f8 f9
              obtain ⟨j1, j2, j3, j4⟩ := q2 h'
              replace j1 := j1.symm
              replace j2 := j2.symm
              subst j1 j2
              obtain ⟨l1, l2, l3⟩ := j4
              obtain ⟨-, -, -, -, i4, i5, i6, i7, i8, i9, -, -, -, -, -, -, i16, i17⟩ := j3
              replace f9 := ck_x (ck_x (ck_x (ck_x f9)))
              rw [nm_eq] at f9
              replace f9 := ck_x (ck_x (ck_x (ck_x f9)))
              rw [nm_eq] at f9
              replace f8 := mm_bd1s f8
              obtain ⟨w8, ew8, f8⟩ := f8
              have H : lh_w (m_rowsOf.toInt * m_columnsOf.toInt).toNat 32 u10 u11 u12 v14 v15 v16 := fun k hk => ⟨(l3 k hk).1, (l3 k hk).2.1, (l3 k hk).2.2.1⟩
              have H1 : lh_w (m_rowsOf.toInt * m_columnsOf.toInt).toNat (32 * (1 : Int32).toInt.toNat) u10 u11 u12 v14 v15 v16 := by rw [y1]; exact H
              obtain ⟨k1, k2⟩ := tt_a (by omega) (by omega) H (fun k hk => ⟨(zn_n i16 (by omega) (by omega) (by omega)).1, by have := (zn_n i16 (by omega) (k := k) (by omega) (by omega)).2; omega⟩) (fun k hk => ⟨(zn_n i17 (by omega) (by omega) (by omega)).1, by have := (zn_n i17 (by omega) (k := k) (by omega) (by omega)).2; omega⟩) g1.1 (by omega) g2.1 (by omega) ew8
              by_cases hs : (((mm_ig v14 ((32 : Int32) + a)) - (mm_ig v14 ((32 : Int32) + b))) * ((mm_ig v14 ((32 : Int32) + a)) - (mm_ig v14 ((32 : Int32) + b)))) + (((mm_ig v15 ((32 : Int32) + a)) - (mm_ig v15 ((32 : Int32) + b))) * ((mm_ig v15 ((32 : Int32) + a)) - (mm_ig v15 ((32 : Int32) + b)))) = (1 : Int32)
              · rw [if_pos hs] at f9
                obtain ⟨c8, d8, ec8, kf, kt⟩ := k1 hs
                replace f9 := ck_x f9
                replace f9 := mm_bd1s f9
                obtain ⟨c9, ec9, f9⟩ := f9
                have q := it_a (m := (m_rowsOf.toInt * m_columnsOf.toInt).toNat) (lv := (1 : Int32)) (by omega) (by omega) (by omega) (by omega) H1 g1.1 (by omega) ec8 ec9
                subst q
                by_cases p : c9 = false
                · have w := kf p
                  rw [if_pos p] at f9
                  rw [if_pos w] at f8
                  apply mm_sub18 f8
                  apply mm_sub25 f9
                  rfl
                · have p' : c9 = true := by
                    cases hv : c9
                    · exact absurd hv p
                    · rfl
                  obtain ⟨ed8, wd⟩ := kt p'
                  rw [if_neg p] at f9
                  replace f9 := ck_x f9
                  replace f9 := mm_bd1s f9
                  obtain ⟨d9, ed9, f9⟩ := f9
                  have q := it_a (m := (m_rowsOf.toInt * m_columnsOf.toInt).toNat) (lv := (1 : Int32)) (by omega) (by omega) (by omega) (by omega) H1 g2.1 (by omega) ed8 ed9
                  subst q
                  by_cases o : d9 = false
                  · rw [if_pos o] at f9
                    rw [if_pos (wd.trans o)] at f8
                    apply mm_sub18 f8
                    apply mm_sub25 f9
                    rfl
                  · rw [if_neg o] at f9
                    rw [if_neg (fun h => o (wd.symm.trans h))] at f8
                    apply mm_sub18 f8
                    apply mm_sub25 f9
                    rfl
              · rw [if_neg hs] at f9
                rw [if_pos (k2 hs)] at f8
                apply mm_sub18 f8
                apply mm_sub25 f9
                rfl
        · rw [decide_eq_false g2, if_pos rfl] at f9
          apply mm_sub25 f9
          by_cases g3 : a = b
          · rw [if_pos g3] at f8
            apply mm_sub18 f8
            rfl
          · rw [if_neg g3, hf_e, bs_1, decide_eq_true g1, if_neg (by decide), hf_e, bs_1, decide_eq_false g2, if_pos rfl] at f8
            apply mm_sub18 f8
            rfl
      · rw [decide_eq_false g1, if_pos rfl] at f9
        apply mm_sub25 f9
        by_cases g3 : a = b
        · rw [if_pos g3] at f8
          apply mm_sub18 f8
          rfl
        · rw [if_neg g3, hf_e, bs_1, decide_eq_false g1, if_pos rfl] at f8
          apply mm_sub18 f8
          rfl
  subst er
  exact ⟨_, _, _, _, _, _, _, _, _, _, _, _, _, _, _, _, _, _, _, _, _, _, _, _, _, _, _, _, _, _, _, _, _, _, _, _, _, _, _, _, _, _, e8, e9, k8.1, k8.2, k9.1, k9.2, hr_0, hr_1, hr_2⟩
end
section
/-! The law's loop: where the script is at a place, over every state that keeps the invariants -/
def lw_St (p : Program) (l : Launch) (e : Env) (s : State) (m : MethodId) (below : List Frame) (meth : Method) (c : Code) (D : va_G) (cI cL cS cH : ClassId) (bb : Nat) (a b : Nat → Nat) (cells slots : Nat) (Q : State → Prop) (pc : Nat) (ls : Array Slot) : Prop := ∀ (v_hasImage : Bool) (v_now_rows : Int32) (v_now_cols : Int32) (v_now_high : Int32) (v_now_wide : Int32) (v_now_folds : Int32) (v_now_wrong : Int32) (v_now_more : Int32) (v_now_rowOf : List Int32) (v_now_colOf : List Int32) (v_now_below : List Int32) (v_now_face : List Int32) (v_now_worn : List Int32) (v_now_last : List Int32) (v_now_bend : List Int32) (v_now_tall : List Int32) (v_kept_rows : Int32) (v_kept_cols : Int32) (v_kept_high : Int32) (v_kept_wide : Int32) (v_kept_folds : Int32) (v_kept_wrong : Int32) (v_kept_more : Int32) (v_kept_rowOf : List Int32) (v_kept_colOf : List Int32) (v_kept_below : List Int32) (v_kept_face : List Int32) (v_kept_worn : List Int32) (v_kept_last : List Int32) (v_kept_bend : List Int32) (v_kept_tall : List Int32) (v_wearing_size : Int32) (v_wearing_stepCount : Int32) (v_wearing_draftCount : Int32) (v_wearing_place : Int32) (v_wearing_fault : Int32) (v_wearing_stacked : Int32) (v_wearing_tape : List Int32) (v_wearing_steps : List Int32) (v_wearing_draft : List Int32) (v_wearing_stack : List Int32) (v_planned_size : Int32) (v_planned_trial_rows : Int32) (v_planned_trial_cols : Int32) (v_planned_trial_high : Int32) (v_planned_trial_wide : Int32) (v_planned_trial_folds : Int32) (v_planned_trial_wrong : Int32) (v_planned_trial_more : Int32) (v_planned_trial_rowOf : List Int32) (v_planned_trial_colOf : List Int32) (v_planned_trial_below : List Int32) (v_planned_trial_face : List Int32) (v_planned_trial_worn : List Int32) (v_planned_trial_last : List Int32) (v_planned_trial_bend : List Int32) (v_planned_trial_tall : List Int32) (v_planned_lines : List Int32) (v_planned_ways : List Int32) (v_search_found : Bool) (v_search_wrong : Int32) (v_search_more : Int32) (v_search_folds : Int32) (v_search_wanted : Int32) (v_search_levels0_rows : Int32) (v_search_levels0_cols : Int32) (v_search_levels0_high : Int32) (v_search_levels0_wide : Int32) (v_search_levels0_folds : Int32) (v_search_levels0_wrong : Int32) (v_search_levels0_more : Int32) (v_search_levels0_rowOf : List Int32) (v_search_levels0_colOf : List Int32) (v_search_levels0_below : List Int32) (v_search_levels0_face : List Int32) (v_search_levels0_worn : List Int32) (v_search_levels0_last : List Int32) (v_search_levels0_bend : List Int32) (v_search_levels0_tall : List Int32) (v_search_levels1_rows : Int32) (v_search_levels1_cols : Int32) (v_search_levels1_high : Int32) (v_search_levels1_wide : Int32) (v_search_levels1_folds : Int32) (v_search_levels1_wrong : Int32) (v_search_levels1_more : Int32) (v_search_levels1_rowOf : List Int32) (v_search_levels1_colOf : List Int32) (v_search_levels1_below : List Int32) (v_search_levels1_face : List Int32) (v_search_levels1_worn : List Int32) (v_search_levels1_last : List Int32) (v_search_levels1_bend : List Int32) (v_search_levels1_tall : List Int32) (v_search_levels2_rows : Int32) (v_search_levels2_cols : Int32) (v_search_levels2_high : Int32) (v_search_levels2_wide : Int32) (v_search_levels2_folds : Int32) (v_search_levels2_wrong : Int32) (v_search_levels2_more : Int32) (v_search_levels2_rowOf : List Int32) (v_search_levels2_colOf : List Int32) (v_search_levels2_below : List Int32) (v_search_levels2_face : List Int32) (v_search_levels2_worn : List Int32) (v_search_levels2_last : List Int32) (v_search_levels2_bend : List Int32) (v_search_levels2_tall : List Int32) (v_search_levels3_rows : Int32) (v_search_levels3_cols : Int32) (v_search_levels3_high : Int32) (v_search_levels3_wide : Int32) (v_search_levels3_folds : Int32) (v_search_levels3_wrong : Int32) (v_search_levels3_more : Int32) (v_search_levels3_rowOf : List Int32) (v_search_levels3_colOf : List Int32) (v_search_levels3_below : List Int32) (v_search_levels3_face : List Int32) (v_search_levels3_worn : List Int32) (v_search_levels3_last : List Int32) (v_search_levels3_bend : List Int32) (v_search_levels3_tall : List Int32) (v_search_path : List Int32) (v_search_best : List Int32) (v_strip_list : List Int32) (v_strip_found : List Int32) (v_strip_at : List Int32) (v_changes_value : Int32) (v_changes_done : Int32) (v_changes_size : Int32) (v_changes_before : List Int32) (v_changes_after : List Int32) (v_foldings_size : Int32) (v_foldings_ran : Int32) (v_foldings_number : Int32) (v_foldings_kinds : List Int32) (v_foldings_trace : List Int32) (v_shelves0_holds : Int32) (v_shelves0_body : Int32) (v_shelves0_sort : Int32) (v_shelves0_size : Int32) (v_shelves0_items : List Int64) (v_shelves1_holds : Int32) (v_shelves1_body : Int32) (v_shelves1_sort : Int32) (v_shelves1_size : Int32) (v_shelves1_items : List Int64) (v_shelves2_holds : Int32) (v_shelves2_body : Int32) (v_shelves2_sort : Int32) (v_shelves2_size : Int32) (v_shelves2_items : List Int64) (v_shelves3_holds : Int32) (v_shelves3_body : Int32) (v_shelves3_sort : Int32) (v_shelves3_size : Int32) (v_shelves3_items : List Int64) (v_shelves4_holds : Int32) (v_shelves4_body : Int32) (v_shelves4_sort : Int32) (v_shelves4_size : Int32) (v_shelves4_items : List Int64) (v_shelves5_holds : Int32) (v_shelves5_body : Int32) (v_shelves5_sort : Int32) (v_shelves5_size : Int32) (v_shelves5_items : List Int64) (m_keptMany : Int32) (m_done : Int32) (m_rowsOf : Int32) (m_columnsOf : Int32) (m_folded : Int32) (m_wronged : Int32) (m_tapeMany : Int32) (m_textMany : Int32) (m_base : Int32) (m_at : Int32) (m_ends : Int32) (m_fault : Int32) (m_opened : Int32) (m_bentMany : Int32) (m_bentWrong : Int32) (m_moreWorn : Int32) (m_planned : Int32) (m_allWrong : Int32) (m_allWorn : Int32) (m_z : Int32) (m_wishedField : Int32) (m_isFound : Bool) (m_bestWrong : Int32) (m_bestWorn : Int32) (m_bestMany : Int32) (m_soughtBy : Int32) (m_sought : Int32) (m_soughtAt : Int32) (m_foundMany : Int32) (m_foundOrder : Int32) (m_isKept : Bool) (m_imageRows : Int32) (m_imageColumns : Int32) (m_imageFolded : Int32) (m_imageWronged : Int32) (m_bodies : Int32) (m_ran : Int32) (m_ownKind : Int32) (m_ownNumber : Int32) (m_limit : List Int32) (m_changeWas : List Int32) (m_changeIs : List Int32) (m_shapeRows : List Int32) (m_shapeColumns : List Int32) (m_row : List Int32) (m_column : List Int32) (m_below : List Int32) (m_face : List Int32) (m_worn : List Int32) (m_lastBend : List Int32) (m_tape : List Int32) (m_text : List Int32) (m_names : List Int32) (m_bends : List Int32) (m_high : List Int32) (m_to : List Int32) (m_pileSize : List Int32) (m_planLine : List Int32) (m_planWay : List Int32) (m_way1 : List Int32) (m_bestWay : List Int32) (m_order1 : List Int32) (m_placeIn : List Int32) (m_bodyKind : List Int32) (m_trace : List Int32) (m_shelf : List Int32) (m_many : List Int32) (m_items : List Int64) (m_carried : List Int64) (H : Heap) (locs : List Loc), gi_sh v_now_rows v_now_cols v_now_high v_now_wide v_now_rowOf v_now_colOf v_now_below v_now_face v_now_worn v_now_last v_now_bend v_now_tall → gi_ch v_changes_done v_changes_size v_changes_before v_changes_after → gi_la v_wearing_size v_wearing_stepCount v_wearing_draftCount v_wearing_tape v_wearing_steps v_wearing_draft v_wearing_stack → gi_pl v_planned_size v_planned_lines v_planned_ways → gi_sf v_shelves0_size v_shelves0_items → gi_sf v_shelves1_size v_shelves1_items → gi_sf v_shelves2_size v_shelves2_items → gi_sf v_shelves3_size v_shelves3_items → gi_sf v_shelves4_size v_shelves4_items → gi_sf v_shelves5_size v_shelves5_items → gi_sh v_planned_trial_rows v_planned_trial_cols v_planned_trial_high v_planned_trial_wide v_planned_trial_rowOf v_planned_trial_colOf v_planned_trial_below v_planned_trial_face v_planned_trial_worn v_planned_trial_last v_planned_trial_bend v_planned_trial_tall → gi_se v_search_folds v_search_path v_search_best → gi_sh v_search_levels0_rows v_search_levels0_cols v_search_levels0_high v_search_levels0_wide v_search_levels0_rowOf v_search_levels0_colOf v_search_levels0_below v_search_levels0_face v_search_levels0_worn v_search_levels0_last v_search_levels0_bend v_search_levels0_tall → gi_sh v_search_levels1_rows v_search_levels1_cols v_search_levels1_high v_search_levels1_wide v_search_levels1_rowOf v_search_levels1_colOf v_search_levels1_below v_search_levels1_face v_search_levels1_worn v_search_levels1_last v_search_levels1_bend v_search_levels1_tall → gi_sh v_search_levels2_rows v_search_levels2_cols v_search_levels2_high v_search_levels2_wide v_search_levels2_rowOf v_search_levels2_colOf v_search_levels2_below v_search_levels2_face v_search_levels2_worn v_search_levels2_last v_search_levels2_bend v_search_levels2_tall → gi_sh v_search_levels3_rows v_search_levels3_cols v_search_levels3_high v_search_levels3_wide v_search_levels3_rowOf v_search_levels3_colOf v_search_levels3_below v_search_levels3_face v_search_levels3_worn v_search_levels3_last v_search_levels3_bend v_search_levels3_tall → gi_st v_strip_at v_strip_list v_strip_found → gi_sh v_kept_rows v_kept_cols v_kept_high v_kept_wide v_kept_rowOf v_kept_colOf v_kept_below v_kept_face v_kept_worn v_kept_last v_kept_bend v_kept_tall → gi_fo v_foldings_size v_foldings_kinds v_foldings_trace → gm_ch m_keptMany m_done m_limit m_changeWas m_changeIs → gm_sh m_rowsOf m_columnsOf m_isKept m_imageRows m_imageColumns m_shapeRows m_shapeColumns m_row m_column m_below m_face m_worn m_lastBend → gm_tx m_tapeMany m_textMany m_tape m_text m_names m_bends m_high m_to m_pileSize → gm_pl m_planned m_planLine m_planWay → gm_se m_bestMany m_way1 m_bestWay → gm_or m_order1 m_placeIn → gm_bo m_bodies m_bodyKind m_trace → gm_sf m_shelf m_many m_items m_carried → rl_bo v_foldings_size v_foldings_kinds m_bodies m_bodyKind → rl_sc v_foldings_size v_shelves0_holds v_shelves0_body v_shelves0_sort v_shelves0_size v_shelves1_holds v_shelves1_body v_shelves1_sort v_shelves1_size v_shelves2_holds v_shelves2_body v_shelves2_sort v_shelves2_size v_shelves3_holds v_shelves3_body v_shelves3_sort v_shelves3_size v_shelves4_holds v_shelves4_body v_shelves4_sort v_shelves4_size v_shelves5_holds v_shelves5_body v_shelves5_sort v_shelves5_size m_shelf m_many → rl_it v_shelves0_items v_shelves1_items v_shelves2_items v_shelves3_items v_shelves4_items v_shelves5_items m_items → rl_pl v_planned_size v_planned_lines v_planned_ways m_planned m_planLine m_planWay → rl_dm v_now_rows v_now_cols v_hasImage v_kept_rows v_kept_cols m_rowsOf m_columnsOf m_isKept m_imageRows m_imageColumns → rl_pw m_planned m_planWay → va_P D mm_cl (wd_X8 cI cL cS cH a v_hasImage v_now_rows v_now_cols v_now_high v_now_wide v_now_folds v_now_wrong v_now_more v_now_rowOf v_now_colOf v_now_below v_now_face v_now_worn v_now_last v_now_bend v_now_tall v_kept_rows v_kept_cols v_kept_high v_kept_wide v_kept_folds v_kept_wrong v_kept_more v_kept_rowOf v_kept_colOf v_kept_below v_kept_face v_kept_worn v_kept_last v_kept_bend v_kept_tall v_wearing_size v_wearing_stepCount v_wearing_draftCount v_wearing_place v_wearing_fault v_wearing_stacked v_wearing_tape v_wearing_steps v_wearing_draft v_wearing_stack v_planned_size v_planned_trial_rows v_planned_trial_cols v_planned_trial_high v_planned_trial_wide v_planned_trial_folds v_planned_trial_wrong v_planned_trial_more v_planned_trial_rowOf v_planned_trial_colOf v_planned_trial_below v_planned_trial_face v_planned_trial_worn v_planned_trial_last v_planned_trial_bend v_planned_trial_tall v_planned_lines v_planned_ways v_search_found v_search_wrong v_search_more v_search_folds v_search_wanted v_search_levels0_rows v_search_levels0_cols v_search_levels0_high v_search_levels0_wide v_search_levels0_folds v_search_levels0_wrong v_search_levels0_more v_search_levels0_rowOf v_search_levels0_colOf v_search_levels0_below v_search_levels0_face v_search_levels0_worn v_search_levels0_last v_search_levels0_bend v_search_levels0_tall v_search_levels1_rows v_search_levels1_cols v_search_levels1_high v_search_levels1_wide v_search_levels1_folds v_search_levels1_wrong v_search_levels1_more v_search_levels1_rowOf v_search_levels1_colOf v_search_levels1_below v_search_levels1_face v_search_levels1_worn v_search_levels1_last v_search_levels1_bend v_search_levels1_tall v_search_levels2_rows v_search_levels2_cols v_search_levels2_high v_search_levels2_wide v_search_levels2_folds v_search_levels2_wrong v_search_levels2_more v_search_levels2_rowOf v_search_levels2_colOf v_search_levels2_below v_search_levels2_face v_search_levels2_worn v_search_levels2_last v_search_levels2_bend v_search_levels2_tall v_search_levels3_rows v_search_levels3_cols v_search_levels3_high v_search_levels3_wide v_search_levels3_folds v_search_levels3_wrong v_search_levels3_more v_search_levels3_rowOf v_search_levels3_colOf v_search_levels3_below v_search_levels3_face v_search_levels3_worn v_search_levels3_last v_search_levels3_bend v_search_levels3_tall v_search_path v_search_best v_strip_list v_strip_found v_strip_at v_changes_value v_changes_done v_changes_size v_changes_before v_changes_after v_foldings_size v_foldings_ran v_foldings_number v_foldings_kinds v_foldings_trace v_shelves0_holds v_shelves0_body v_shelves0_sort v_shelves0_size v_shelves0_items v_shelves1_holds v_shelves1_body v_shelves1_sort v_shelves1_size v_shelves1_items v_shelves2_holds v_shelves2_body v_shelves2_sort v_shelves2_size v_shelves2_items v_shelves3_holds v_shelves3_body v_shelves3_sort v_shelves3_size v_shelves3_items v_shelves4_holds v_shelves4_body v_shelves4_sort v_shelves4_size v_shelves4_items v_shelves5_holds v_shelves5_body v_shelves5_sort v_shelves5_size v_shelves5_items ++ wd_X9 cI cL cS cH b m_keptMany m_done m_rowsOf m_columnsOf m_folded m_wronged m_tapeMany m_textMany m_base m_at m_ends m_fault m_opened m_bentMany m_bentWrong m_moreWorn m_planned m_allWrong m_allWorn m_z m_wishedField m_isFound m_bestWrong m_bestWorn m_bestMany m_soughtBy m_sought m_soughtAt m_foundMany m_foundOrder m_isKept m_imageRows m_imageColumns m_imageFolded m_imageWronged m_bodies m_ran m_ownKind m_ownNumber m_limit m_changeWas m_changeIs m_shapeRows m_shapeColumns m_row m_column m_below m_face m_worn m_lastBend m_tape m_text m_names m_bends m_high m_to m_pileSize m_planLine m_planWay m_way1 m_bestWay m_order1 m_placeIn m_bodyKind m_trace m_shelf m_many m_items m_carried) H → va_D (fun q => s.heap.size ≤ q) (wd_X8 cI cL cS cH a v_hasImage v_now_rows v_now_cols v_now_high v_now_wide v_now_folds v_now_wrong v_now_more v_now_rowOf v_now_colOf v_now_below v_now_face v_now_worn v_now_last v_now_bend v_now_tall v_kept_rows v_kept_cols v_kept_high v_kept_wide v_kept_folds v_kept_wrong v_kept_more v_kept_rowOf v_kept_colOf v_kept_below v_kept_face v_kept_worn v_kept_last v_kept_bend v_kept_tall v_wearing_size v_wearing_stepCount v_wearing_draftCount v_wearing_place v_wearing_fault v_wearing_stacked v_wearing_tape v_wearing_steps v_wearing_draft v_wearing_stack v_planned_size v_planned_trial_rows v_planned_trial_cols v_planned_trial_high v_planned_trial_wide v_planned_trial_folds v_planned_trial_wrong v_planned_trial_more v_planned_trial_rowOf v_planned_trial_colOf v_planned_trial_below v_planned_trial_face v_planned_trial_worn v_planned_trial_last v_planned_trial_bend v_planned_trial_tall v_planned_lines v_planned_ways v_search_found v_search_wrong v_search_more v_search_folds v_search_wanted v_search_levels0_rows v_search_levels0_cols v_search_levels0_high v_search_levels0_wide v_search_levels0_folds v_search_levels0_wrong v_search_levels0_more v_search_levels0_rowOf v_search_levels0_colOf v_search_levels0_below v_search_levels0_face v_search_levels0_worn v_search_levels0_last v_search_levels0_bend v_search_levels0_tall v_search_levels1_rows v_search_levels1_cols v_search_levels1_high v_search_levels1_wide v_search_levels1_folds v_search_levels1_wrong v_search_levels1_more v_search_levels1_rowOf v_search_levels1_colOf v_search_levels1_below v_search_levels1_face v_search_levels1_worn v_search_levels1_last v_search_levels1_bend v_search_levels1_tall v_search_levels2_rows v_search_levels2_cols v_search_levels2_high v_search_levels2_wide v_search_levels2_folds v_search_levels2_wrong v_search_levels2_more v_search_levels2_rowOf v_search_levels2_colOf v_search_levels2_below v_search_levels2_face v_search_levels2_worn v_search_levels2_last v_search_levels2_bend v_search_levels2_tall v_search_levels3_rows v_search_levels3_cols v_search_levels3_high v_search_levels3_wide v_search_levels3_folds v_search_levels3_wrong v_search_levels3_more v_search_levels3_rowOf v_search_levels3_colOf v_search_levels3_below v_search_levels3_face v_search_levels3_worn v_search_levels3_last v_search_levels3_bend v_search_levels3_tall v_search_path v_search_best v_strip_list v_strip_found v_strip_at v_changes_value v_changes_done v_changes_size v_changes_before v_changes_after v_foldings_size v_foldings_ran v_foldings_number v_foldings_kinds v_foldings_trace v_shelves0_holds v_shelves0_body v_shelves0_sort v_shelves0_size v_shelves0_items v_shelves1_holds v_shelves1_body v_shelves1_sort v_shelves1_size v_shelves1_items v_shelves2_holds v_shelves2_body v_shelves2_sort v_shelves2_size v_shelves2_items v_shelves3_holds v_shelves3_body v_shelves3_sort v_shelves3_size v_shelves3_items v_shelves4_holds v_shelves4_body v_shelves4_sort v_shelves4_size v_shelves4_items v_shelves5_holds v_shelves5_body v_shelves5_sort v_shelves5_size v_shelves5_items ++ wd_X9 cI cL cS cH b m_keptMany m_done m_rowsOf m_columnsOf m_folded m_wronged m_tapeMany m_textMany m_base m_at m_ends m_fault m_opened m_bentMany m_bentWrong m_moreWorn m_planned m_allWrong m_allWorn m_z m_wishedField m_isFound m_bestWrong m_bestWorn m_bestMany m_soughtBy m_sought m_soughtAt m_foundMany m_foundOrder m_isKept m_imageRows m_imageColumns m_imageFolded m_imageWronged m_bodies m_ran m_ownKind m_ownNumber m_limit m_changeWas m_changeIs m_shapeRows m_shapeColumns m_row m_column m_below m_face m_worn m_lastBend m_tape m_text m_names m_bends m_high m_to m_pileSize m_planLine m_planWay m_way1 m_bestWay m_order1 m_placeIn m_bodyKind m_trace m_shelf m_many m_items m_carried) → va_S (fun q => s.heap.size ≤ q) s.heap H locs → W p l e room_1 s m #[Value.ref bb] below meth c H locs cells slots Q (F0 m pc ls [])
set_option maxHeartbeats 8000000 in
set_option maxRecDepth 100000 in
/-- the law's end -/
theorem law_out {p : Program} {l : Launch} {e : Env} {s : State} {m : MethodId} {below : List Frame} {meth : Method} {c : Code} {bb L : Nat} {xs : Nat → Int32} (C0 : lw_At p s m meth c bb L xs) {H : Heap} {locs : List Loc} {ls : Array Slot} {cells slots : Nat} (hc1 : cells ≤ 600000) (hc2 : slots ≤ 7302250) (hS : va_S (fun q => s.heap.size ≤ q) s.heap H locs) : W p l e room_1 s m #[Value.ref bb] below meth c H locs cells slots (lw_Z below #[Value.ref bb] s) (F0 m 1397 ls []) := by
  obtain ⟨hx, hb, hr, hml, hown, hts, hX, hbl, hlocks, hgv⟩ := C0
  refine lv_iconst (v := 1) hx hb dL_law_1397 (by decide) ?_
  refine va_forget (fun q hq => hS.2.2 q hq) ?_
  refine W.widen (k := 600000) (n := 7302250) hc1 hc2 ?_
  exact lw_ret hx hb hr hlocks dL_law_1398
theorem lw_in {x : Int32} {L : Nat} {z : Int} (h : x.toInt = z) (h0 : 0 ≤ z) (h1 : z < L) : vp_in x L := by
  unfold vp_in
  have n0 : (0 : Int32).toInt = 0 := by decide
  rintro (k | k)
  · rw [Int32.lt_iff_toInt_lt] at k; omega
  · have : L ≤ x.toInt.toNat := k
    omega
end
