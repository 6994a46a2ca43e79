/-! Geometry: piles, the turn whole -/
theorem fi_5 {v x3 : Int32} : ∀ (n : Nat) (x2 : Int32) (l l' : List Int32), fJ7_fill_53178_5 700 n v x2 x3 l = some l' → 0 ≤ x2.toInt → x3.toInt ≤ l.length → x3.toInt < 2147483647 → l'.length = l.length ∧ ∀ k : Nat, k < l.length → l'.getD k 0 = if x2.toInt.toNat ≤ k ∧ k < x3.toInt.toNat then v else l.getD k 0 := by
  have n1 : (1 : Int32).toInt = 1 := by decide
  intro n
  induction n with
  | zero =>
    intro x2 l l' e
    exact absurd e (by intro h; cases h)
  | succ n ih =>
    intro x2 l l' e p0 p1 p2
    rw [uf_J7_fill_53178_5] at e
    by_cases c : x3 ≤ x2
    · rw [if_pos c] at e
      have d := i_le c
      have e := sm_i e
      subst e
      exact ⟨rfl, fun k hk => by rw [if_neg (by omega)]⟩
    · rw [if_neg c] at e
      have d := i_nle c
      have e := ck_x e
      rw [nm_eq, nm_eq] at e
      generalize hy : x2 + (1 : Int32) = y at e
      have ey := i_addE hy (by omega) (by omega)
      obtain ⟨q1, q2⟩ := ih y _ l' e (by omega) (by rw [is_len]; exact p1) p2
      rw [is_len] at q1 q2
      refine ⟨q1, fun k hk => ?_⟩
      rw [q2 k hk, ge_is _ _ _ _ hk]
      by_cases g : x2.toInt.toNat = k
      · rw [if_neg (by omega), if_pos g, if_pos (by omega)]
      · rw [if_neg g]
        by_cases h : x2.toInt.toNat ≤ k ∧ k < x3.toInt.toNat
        · rw [if_pos (by omega), if_pos h]
        · rw [if_neg (by omega), if_neg h]
theorem fi_e {v : Int32} {l l' : List Int32} (e : fJ7_fill_53178 700 v l = some l') (h : l.length ≤ 1000) : l'.length = l.length ∧ ∀ k : Nat, k < l.length → l'.getD k 0 = v := by
  rw [uf_J7_fill_53178, nm_eq] at e
  have n0 : (0 : Int32).toInt = 0 := by decide
  have hn : (Int32.ofNat l.length).toInt = (l.length : Int) := Int32.toInt_ofNat_of_lt (by omega)
  obtain ⟨q1, q2⟩ := fi_5 700 (0 : Int32) l l' e (by omega) (by omega) (by omega)
  refine ⟨q1, fun k hk => ?_⟩
  rw [q2 k hk, if_pos (by omega)]
def it_w (r c : Int32) : Int32 := (r * (8 : Int32)) + c
theorem ms_10 {rows cols : Int32} {R C : List Int32} {m : Nat} (hm : (rows * cols).toInt = m) (m32 : m ≤ 32) : ∀ (n : Nat) (x1 : Int32) (T T' : List Int32), fX5_measurePiles_10 700 n x1 rows cols R C T = some T' → 0 ≤ x1.toInt → x1.toInt ≤ m → T'.length = T.length ∧ ∀ j : Nat, j < T.length → T'.getD j 0 = T.getD j 0 + kc_w (fun k => decide ((it_w (R.getD k 0) (C.getD k 0)).toInt.toNat = j)) x1.toInt.toNat (m - x1.toInt.toNat) := by
  have n1 : (1 : Int32).toInt = 1 := by decide
  intro n
  induction n with
  | zero =>
    intro x1 T T' e
    exact absurd e (by intro h; cases h)
  | succ n ih =>
    intro x1 T T' e p0 p1
    rw [uf_X5_measurePiles_10] at e
    obtain ⟨fl, ef, e⟩ := mm_bd1s e
    have hf : rows * cols = fl := sm_i ef
    subst hf
    by_cases c : rows * cols ≤ x1
    · rw [if_pos c] at e
      have d := i_le c
      have e := sm_i e
      subst e
      have q : m - x1.toInt.toNat = 0 := by omega
      refine ⟨rfl, fun j hj => ?_⟩
      rw [q]
      exact (Int32.add_zero _).symm
    · rw [if_neg c] at e
      have d := i_nle c
      have e := ck_x (ck_x (ck_x e))
      rw [nm_eq] at e
      have e := ck_x e
      rw [nm_eq, nm_eq] at e
      have hi' : it_w (R.getD x1.toInt.toNat 0) (C.getD x1.toInt.toNat 0) = ((mm_ig R x1) * (8 : Int32)) + (mm_ig C x1) := rfl
      rw [← hi'] at e
      generalize hi2 : it_w (R.getD x1.toInt.toNat 0) (C.getD x1.toInt.toNat 0) = i at e
      generalize hy : x1 + (1 : Int32) = y at e
      have ey := i_addE hy (by omega) (by omega)
      obtain ⟨q1, q2⟩ := ih y _ T' e (by omega) (by omega)
      rw [is_len] at q1 q2
      refine ⟨q1, fun j hj => ?_⟩
      rw [q2 j hj, ge_is _ _ _ _ hj]
      obtain ⟨u, hu⟩ : ∃ u : Nat, m - x1.toInt.toNat = u + 1 := ⟨m - x1.toInt.toNat - 1, by omega⟩
      have hu2 : m - y.toInt.toNat = u := by omega
      have hy2 : y.toInt.toNat = x1.toInt.toNat + 1 := by omega
      rw [hu, hu2, hy2]
      show _ = T.getD j 0 + ((if decide ((it_w (R.getD x1.toInt.toNat 0) (C.getD x1.toInt.toNat 0)).toInt.toNat = j) = true then (1 : Int32) else (0 : Int32)) + kc_w _ (x1.toInt.toNat + 1) u)
      rw [hi2]
      by_cases g : i.toInt.toNat = j
      · rw [if_pos g, decide_eq_true g, if_pos rfl, ge_ig, g, Int32.add_assoc]
      · rw [if_neg g, decide_eq_false g, if_neg (by decide), Int32.zero_add]
def s8_w (x1 x2 high wide : Int32) : Int32 := if csw x2 = false then mm_min (0 : Int32) (((2 : Int32) * x1) - (if (4 : Int32) ≤ x2 then high else wide)) else x1
theorem tn_e {x1 x2 rows cols high wide h' w' : Int32} {R C B F T R' C' B' F' T' : List Int32} {m : Nat} (hm : (rows * cols).toInt = m) (m32 : m ≤ 32) (l1 : R.length = 32) (l2 : C.length = 32) (l3 : B.length = 32) (l4 : F.length = 32) (l5 : T.length = 32) (e : fX5_turn 700 x1 x2 rows cols high wide R C B F T = some (h', w', R', C', B', F', T')) : ∃ T1 : List Int32, T1.length = 32 ∧ (∀ j : Nat, j < 32 → T1.getD j 0 = kc_w (fun k => decide ((it_w (R.getD k 0) (C.getD k 0)).toInt.toNat = j)) 0 m) ∧ (h' = (if (4 : Int32) ≤ x2 then mm_max x1 (high - x1) else high) ∧ w' = (if (4 : Int32) ≤ x2 then wide else mm_max x1 (wide - x1))) ∧ (∀ k : Nat, k < m → mv_w T1 high wide x2 x1 (s8_w x1 x2 high wide) (R.getD k 0) (C.getD k 0) (B.getD k 0) (F.getD k 0) (R'.getD k 0) (C'.getD k 0) (B'.getD k 0) (F'.getD k 0)) := by
  have n0 : (0 : Int32).toInt = 0 := by decide
  have z0 : (0 : Int32).toInt.toNat = 0 := by decide
  rw [uf_X5_turn] at e
  obtain ⟨T1, et, e⟩ := mm_bd1s e
  rw [uf_X5_measurePiles] at et
  obtain ⟨T0, e0, et⟩ := mm_bd1s et
  obtain ⟨a1, a2⟩ := fi_e e0 (by omega)
  obtain ⟨b1, b2⟩ := ms_10 hm m32 700 (0 : Int32) T0 T1 et (by omega) (by omega)
  obtain ⟨s, es, e⟩ := mm_bd1s e
  have hs := sp_e es
  obtain ⟨q, eq, e⟩ := mm_bd1s e
  have hq := cs_e eq
  subst hq
  have e2 : fX5_turn_35 700 700 x1 x2 (s8_w x1 x2 high wide) (0 : Int32) rows cols high wide R C B F T1 = some (h', w', R', C', B', F', T') := by
    unfold s8_w
    rw [← hs]
    by_cases g : csw x2 = false
    · rw [if_pos g] at e ⊢
      exact e
    · rw [if_neg g] at e ⊢
      exact e
  obtain ⟨j1, -, j3⟩ := tu_35 hm m32 700 (0 : Int32) R C B F h' w' R' C' B' F' T' e2 (by omega) (by omega) l1 l2 l3 l4
  rw [z0] at b2
  refine ⟨T1, by omega, fun j hj => ?_, j1, fun k hk => j3 k (by omega) hk⟩
  rw [b2 j (by omega), a2 j (by omega), Int32.zero_add]
  rfl
theorem it_i {r c : Int32} (r0 : 0 ≤ r.toInt) (r1 : r.toInt < 8) (c0 : 0 ≤ c.toInt) (c1 : c.toInt < 8) : (it_w r c).toInt = 8 * r.toInt + c.toInt := by
  unfold it_w
  generalize hz : r * (8 : Int32) = z
  have ez := i_mulRE (c := 8) (by decide) hz (by omega) (by omega)
  generalize hy : z + c = y
  have ey := i_addE hy (by omega) (by omega)
  omega
theorem i8_i {x a : Int32} (r0 : 0 ≤ x.toInt) (r1 : x.toInt < 8) (c0 : 0 ≤ a.toInt) (c1 : a.toInt < 8) : (((8 : Int32) * x) + a).toInt = 8 * x.toInt + a.toInt := by
  generalize hz : (8 : Int32) * x = z
  have ez := i_mulLE (c := 8) (by decide) hz (by omega) (by omega)
  generalize hy : z + a = y
  have ey := i_addE hy (by omega) (by omega)
  omega
theorem wy_8 : ∀ k : Fin 8, l9_w (Int32.ofNat k.val) = mm_b (csw (Int32.ofNat k.val)) ∧ o9_w (v9_w (Int32.ofNat k.val)) = ovw (Int32.ofNat k.val) := by decide +kernel
theorem on_x {u : Int32} (h0 : 0 ≤ u.toInt) (h1 : u.toInt < 128) : Int32.ofNat u.toInt.toNat = u := by
  apply Int32.toInt_inj.mp
  rw [Int32.toInt_ofNat_of_lt (by omega)]
  omega
theorem wy_e {w : Int32} (h0 : 0 ≤ w.toInt) (h1 : w.toInt ≤ 7) : l9_w w = mm_b (csw w) ∧ o9_w (v9_w w) = ovw w := by
  have q := wy_8 ⟨w.toInt.toNat, by omega⟩
  rw [on_x h0 (by omega)] at q
  exact q
theorem b9_p {w : Int32} (h : (4 : Int32) ≤ w) : b9_w w = 0 := by
  unfold b9_w
  rw [if_pos h]
theorem b9_n {w : Int32} (h : ¬ (4 : Int32) ≤ w) : b9_w w = 1 := by
  unfold b9_w
  rw [if_neg h]
theorem al_p (w r c : Int32) : pl_w (b9_w w) r c = al_w w r c := by
  unfold pl_w al_w
  by_cases h : (4 : Int32) ≤ w
  · rw [b9_p h, if_pos rfl, if_pos h]
  · rw [b9_n h, if_neg (by decide), if_neg h]
theorem ac_p (w r c : Int32) : pc_w (b9_w w) r c = ac_w w r c := by
  unfold pc_w ac_w
  by_cases h : (4 : Int32) ≤ w
  · rw [b9_p h, if_pos rfl, if_pos h]
  · rw [b9_n h, if_neg (by decide), if_neg h]
/-- the piles' heights, told both ways -/
theorem hq_e {w a x : Int32} {R C T1 PS1 : List Int32} {m : Nat} (rr : ∀ k : Nat, k < m → 0 ≤ (R.getD k 0).toInt ∧ (R.getD k 0).toInt < 4) (rc : ∀ k : Nat, k < m → 0 ≤ (C.getD k 0).toInt ∧ (C.getD k 0).toInt < 8) (t1 : ∀ j : Nat, j < 32 → T1.getD j 0 = kc_w (fun k => decide ((it_w (R.getD k 0) (C.getD k 0)).toInt.toNat = j)) 0 m) (t2 : ∀ j : Nat, j < 64 → PS1.getD j 0 = kc_w (fun k => decide ((iw_w (b9_w w) (R.getD k 0) (C.getD k 0)).toInt.toNat = j)) 0 m) (a0 : 0 ≤ a.toInt) (a1 : a.toInt < (if (4 : Int32) ≤ w then (4 : Int) else (8 : Int))) (x0 : 0 ≤ x.toInt) (x1 : x.toInt < (if (4 : Int32) ≤ w then (8 : Int) else (4 : Int))) : (if (4 : Int32) ≤ w then mm_ig T1 ((a * (8 : Int32)) + x) else mm_ig T1 ((x * (8 : Int32)) + a)) = PS1.getD (((8 : Int32) * x) + a).toInt.toNat 0 := by
  by_cases h : (4 : Int32) ≤ w
  · rw [if_pos h] at a1 x1 ⊢
    have e1 := it_i a0 (by omega) x0 x1
    have e2 := i8_i x0 x1 a0 (by omega)
    show T1.getD (it_w a x).toInt.toNat 0 = _
    rw [t1 _ (by omega), t2 _ (by omega)]
    refine kc_c m 0 (fun k k0 k1 => ?_)
    obtain ⟨u0, u1⟩ := rr k (by omega)
    obtain ⟨v0, v1⟩ := rc k (by omega)
    have e3 := it_i u0 (by omega) v0 v1
    have e4 := i8_i v0 v1 u0 (by omega)
    have e5 : iw_w (b9_w w) (R.getD k 0) (C.getD k 0) = ((8 : Int32) * C.getD k 0) + R.getD k 0 := by
      unfold iw_w
      rw [b9_p h]
      rfl
    rw [e5]
    exact decide_eq_decide.mpr (by omega)
  · rw [if_neg h] at a1 x1 ⊢
    have e1 := it_i x0 (by omega) a0 a1
    have e2 := i8_i x0 (by omega) a0 a1
    show T1.getD (it_w x a).toInt.toNat 0 = _
    rw [t1 _ (by omega), t2 _ (by omega)]
    refine kc_c m 0 (fun k k0 k1 => ?_)
    obtain ⟨u0, u1⟩ := rr k (by omega)
    obtain ⟨v0, v1⟩ := rc k (by omega)
    have e3 := it_i u0 (by omega) v0 v1
    have e4 := i8_i u0 (by omega) v0 v1
    have e5 : iw_w (b9_w w) (R.getD k 0) (C.getD k 0) = ((8 : Int32) * R.getD k 0) + C.getD k 0 := by
      unfold iw_w
      rw [b9_n h]
      rfl
    rw [e5]
    exact decide_eq_decide.mpr (by omega)
