/-! Geometry: the reference's moves, field by field -/
theorem ix_e {x1 x9 : Int32} (h0 : 0 ≤ x1.toInt) (h1 : x1.toInt ≤ 5) (k0 : 0 ≤ x9.toInt) (k1 : x9.toInt ≤ 64) : (((32 : Int32) * x1) + x9).toInt.toNat = 32 * x1.toInt.toNat + x9.toInt.toNat := by
  generalize hz : (32 : Int32) * x1 = z
  have ez := i_mulLE (c := 32) (by decide) hz (by omega) (by omega)
  generalize hy : z + x9 = y
  have ey := i_addE hy (by omega) (by omega)
  omega
theorem wn_x (a l h : Int64) : fX9_within 700 a l h = some (decide (l.toInt ≤ a.toInt ∧ a.toInt ≤ h.toInt)) := by
  obtain ⟨w, ew, qw⟩ := sf_X9_within (Nat.le_refl 700) (x0 := a) (x2 := l) (x4 := h)
  rw [ew]
  rcases qw with ⟨rfl, q0, q1⟩ | ⟨rfl, q0⟩
  · rw [decide_eq_true ⟨q0, q1⟩]
  · rw [decide_eq_false (by omega)]
def pl_w (x4 r c : Int32) : Int32 := if x4 = 0 then r else c
def pc_w (x4 r c : Int32) : Int32 := if x4 = 0 then c else r
theorem pl_e {x1 x2 x3 a : Int32} {row col : List Int32} (h : fX9_placeOf 700 x1 x2 x3 row col = some a) : a = pl_w x3 (row.getD (((32 : Int32) * x1) + x2).toInt.toNat 0) (col.getD (((32 : Int32) * x1) + x2).toInt.toNat 0) := by
  unfold fX9_placeOf at h
  unfold pl_w
  by_cases c : x3 = 0
  · rw [if_pos c] at h ⊢
    exact (sm_i (ck_x h)).symm
  · rw [if_neg c] at h ⊢
    exact (sm_i (ck_x h)).symm
theorem pl_not (x4 r c : Int32) : pl_w (if x4 = 0 then (1 : Int32) else (0 : Int32)) r c = pc_w x4 r c := by
  unfold pl_w pc_w
  by_cases h : x4 = 0
  · rw [if_pos h, if_pos h, if_neg (by decide)]
  · rw [if_neg h, if_neg h, if_pos rfl]
/-- how many of the places from j on, m of them, are such -/
def kc_w (p : Nat → Bool) : Nat → Nat → Int32
  | _, 0 => 0
  | j, m + 1 => (if p j = true then (1 : Int32) else (0 : Int32)) + kc_w p (j + 1) m
theorem kc_c {p q : Nat → Bool} : ∀ (m j : Nat), (∀ k : Nat, j ≤ k → k < j + m → p k = q k) → kc_w p j m = kc_w q j m := by
  intro m
  induction m with
  | zero =>
    intro j _
    rfl
  | succ m ih =>
    intro j h
    show (if p j = true then (1 : Int32) else (0 : Int32)) + kc_w p (j + 1) m = (if q j = true then (1 : Int32) else (0 : Int32)) + kc_w q (j + 1) m
    rw [h j (by omega) (by omega), ih (j + 1) (fun k k0 k1 => h k (by omega) (by omega))]
def iw_w (x4 r c : Int32) : Int32 := ((8 : Int32) * pc_w x4 r c) + pl_w x4 r c
theorem pm_94 {x1 x2 x4 x5 x6 x7 x8 ro co : Int32} {sR sC row col bel fac hi to : List Int32} {z : (List Int32 × List Int32 × List Int32 × List Int32 × List Int32 × List Int32 × List Int32 × List Int32 × List Int32)} : ∀ (n : Nat) (x9 : Int32) (PS : List Int32), fX9_movesAll_94 700 n x1 x2 x4 x5 x6 x7 x8 x9 ro co sR sC row col bel fac hi to PS = some z → 0 ≤ x9.toInt → x9.toInt ≤ 64 → PS.length = 64 → (∀ k : Nat, k < x9.toInt.toNat → PS.getD k 0 = 0) → ∃ PS1 : List Int32, PS1.length = 64 ∧ (∀ k : Nat, k < 64 → PS1.getD k 0 = 0) ∧ fX9_movesAll_118 700 700 x1 x2 x4 x5 x6 x7 x8 (0 : Int32) ro co sR sC row col bel fac hi to PS1 = some z := by
  have n1 : (1 : Int32).toInt = 1 := by decide
  have n64 : (64 : Int32).toInt = 64 := by decide
  intro n
  induction n with
  | zero =>
    intro x9 PS e
    exact absurd e (by intro h; cases h)
  | succ n ih =>
    intro x9 PS e p0 p1 l H
    rw [uf_X9_movesAll_94] at e
    by_cases c : (64 : Int32) ≤ x9
    · rw [if_pos c] at e
      have d := i_le c
      exact ⟨PS, l, fun k hk => H k (by omega), e⟩
    · rw [if_neg c] at e
      have d := i_nle c
      have e := ck_x e
      rw [nm_eq, nm_eq] at e
      generalize hy : x9 + (1 : Int32) = y at e
      have ey := i_addE hy (by omega) (by omega)
      refine ih y (mm_is PS x9 (0 : Int32)) e (by omega) (by omega) (by rw [is_len]; exact l) (fun k hk => ?_)
      rw [ge_is _ _ _ _ (by omega)]
      by_cases g : x9.toInt.toNat = k
      · rw [if_pos g]
      · rw [if_neg g]
        exact H k (by omega)
theorem pm_154 {k : Int32 → Int32 → Int32 → Int32 → Int32 → Int32 → Int32 → Int32 → Int32 → Int32 → List Int32 → List Int32 → List Int32 → List Int32 → List Int32 → List Int32 → List Int32 → List Int32 → List Int32 → Option (List Int32 × List Int32 × List Int32 × List Int32 × List Int32 × List Int32 × List Int32 × List Int32 × List Int32)} {x1 x2 x4 x5 x6 x7 x8 x9 s4 ro co : Int32} {sR sC row col bel fac hi to PS : List Int32} {z : (List Int32 × List Int32 × List Int32 × List Int32 × List Int32 × List Int32 × List Int32 × List Int32 × List Int32)} (h4 : s4 = pl_w x4 (row.getD (((32 : Int32) * x1) + x9).toInt.toNat 0) (col.getD (((32 : Int32) * x1) + x9).toInt.toNat 0)) (e : fX9_movesAll_154 700 k x1 x2 x4 x5 x6 x7 x8 x9 (if x4 = 0 then (1 : Int32) else (0 : Int32)) x9 x1 s4 ro co sR sC row col bel fac hi to PS = some z) : k x1 x2 x4 x5 x6 x7 x8 (x9 + (1 : Int32)) ro co sR sC row col bel fac hi to (mm_is PS (iw_w x4 (row.getD (((32 : Int32) * x1) + x9).toInt.toNat 0) (col.getD (((32 : Int32) * x1) + x9).toInt.toNat 0)) (mm_ig PS (iw_w x4 (row.getD (((32 : Int32) * x1) + x9).toInt.toNat 0) (col.getD (((32 : Int32) * x1) + x9).toInt.toNat 0)) + (1 : Int32))) = some z := by
  rw [uf_X9_movesAll_154] at e
  obtain ⟨a, ea, e⟩ := mm_bd1s e
  have ha := pl_e ea
  rw [pl_not] at ha
  obtain ⟨i, ei, e⟩ := mm_bd1s e
  have hi' : ((8 : Int32) * a) + s4 = i := sm_i ei
  have e := ck_x e
  rw [nm_eq] at e
  have e := ck_x e
  rw [nm_eq, nm_eq] at e
  have hj : iw_w x4 (row.getD (((32 : Int32) * x1) + x9).toInt.toNat 0) (col.getD (((32 : Int32) * x1) + x9).toInt.toNat 0) = i := by
    unfold iw_w
    rw [← h4, ← ha]
    exact hi'
  rw [hj]
  exact e
theorem pm_118 {x1 x2 x4 x5 x6 x7 x8 ro co : Int32} {sR sC row col bel fac hi to : List Int32} {z : (List Int32 × List Int32 × List Int32 × List Int32 × List Int32 × List Int32 × List Int32 × List Int32 × List Int32)} {m : Nat} (hm : (ro * co).toInt = m) (m32 : m ≤ 32) (L0 : 0 ≤ x1.toInt) (L5 : x1.toInt ≤ 5) : ∀ (n : Nat) (x9 : Int32) (PS : List Int32), fX9_movesAll_118 700 n x1 x2 x4 x5 x6 x7 x8 x9 ro co sR sC row col bel fac hi to PS = some z → 0 ≤ x9.toInt → x9.toInt ≤ m → PS.length = 64 → ∃ PS1 : List Int32, PS1.length = 64 ∧ (∀ j : Nat, j < 64 → PS1.getD j 0 = PS.getD j 0 + kc_w (fun k => decide ((iw_w x4 (row.getD (32 * x1.toInt.toNat + k) 0) (col.getD (32 * x1.toInt.toNat + k) 0)).toInt.toNat = j)) x9.toInt.toNat (m - x9.toInt.toNat)) ∧ fX9_movesAll_174 700 700 x1 x2 x4 x5 x6 x7 x8 (0 : Int32) ro co sR sC row col bel fac hi to PS1 = some z := by
  have n1 : (1 : Int32).toInt = 1 := by decide
  intro n
  induction n with
  | zero =>
    intro x9 PS e
    exact absurd e (by intro h; cases h)
  | succ n ih =>
    intro x9 PS e p0 p1 l
    rw [uf_X9_movesAll_118] at e
    obtain ⟨fl, ef, e⟩ := mm_bd1s e
    have hf : ro * co = fl := sm_i ef
    subst hf
    by_cases c : ro * co ≤ x9
    · rw [if_pos c] at e
      have d := i_le c
      have q : m - x9.toInt.toNat = 0 := by omega
      refine ⟨PS, l, fun j hj => ?_, e⟩
      rw [q]
      exact (Int32.add_zero _).symm
    · rw [if_neg c] at e
      have d := i_nle c
      obtain ⟨a, ea, e⟩ := mm_bd1s e
      have ha := pl_e ea
      have e2 : fX9_movesAll_154 700 (fX9_movesAll_118 700 n) x1 x2 x4 x5 x6 x7 x8 x9 (if x4 = 0 then (1 : Int32) else (0 : Int32)) x9 x1 a ro co sR sC row col bel fac hi to PS = some z := by
        by_cases g : x4 = 0
        · rw [if_pos g] at e ⊢
          exact e
        · rw [if_neg g] at e ⊢
          exact e
      have e3 := pm_154 ha e2
      rw [ix_e L0 L5 p0 (by omega)] at e3
      generalize hi' : iw_w x4 (row.getD (32 * x1.toInt.toNat + x9.toInt.toNat) 0) (col.getD (32 * x1.toInt.toNat + x9.toInt.toNat) 0) = i at e3
      generalize hy : x9 + (1 : Int32) = y at e3
      have ey := i_addE hy (by omega) (by omega)
      obtain ⟨PS1, q1, q2, q3⟩ := ih y _ e3 (by omega) (by omega) (by rw [is_len]; exact l)
      refine ⟨PS1, q1, fun j hj => ?_, q3⟩
      rw [q2 j hj, ge_is _ _ _ _ (by omega)]
      obtain ⟨u, hu⟩ : ∃ u : Nat, m - x9.toInt.toNat = u + 1 := ⟨m - x9.toInt.toNat - 1, by omega⟩
      have hu2 : m - y.toInt.toNat = u := by omega
      have hy2 : y.toInt.toNat = x9.toInt.toNat + 1 := by omega
      rw [hu, hu2, hy2]
      show _ = PS.getD j 0 + ((if decide ((iw_w x4 (row.getD (32 * x1.toInt.toNat + x9.toInt.toNat) 0) (col.getD (32 * x1.toInt.toNat + x9.toInt.toNat) 0)).toInt.toNat = j) = true then (1 : Int32) else (0 : Int32)) + kc_w _ (x9.toInt.toNat + 1) u)
      rw [hi']
      by_cases g : i.toInt.toNat = j
      · rw [if_pos g, decide_eq_true g, if_pos rfl, ge_ig, g, Int32.add_assoc]
      · rw [if_neg g, decide_eq_false g, if_neg (by decide), Int32.zero_add]
/-- what lies where the place is mirrored to -/
def th_w (PS : List Int32) (x7 m x : Int32) : Int32 := if 0 ≤ m.toInt ∧ m.toInt ≤ (x7 - (1 : Int32)).toInt then PS.getD (((8 : Int32) * x) + m).toInt.toNat 0 else 0
def c9_w (x2 a x5 : Int32) : Bool := decide ((if x2 ≤ a then (0 : Int32) else (1 : Int32)) = x5)
def o9_w (x6 : Int32) : Bool := !decide (x6 = 0)
/-- a field before and behind the fold, as the reference has it -/
def mr_w (PS : List Int32) (x7 x4 x5 x6 x2 x8 r c b f b' f' p' : Int32) : Prop := b' = nb_w (c9_w x2 (pl_w x4 r c) x5) (o9_w x6) (PS.getD (iw_w x4 r c).toInt.toNat 0) (th_w PS x7 ((((2 : Int32) * x2) - (1 : Int32)) - pl_w x4 r c) (pc_w x4 r c)) b ∧ f' = nf_w (c9_w x2 (pl_w x4 r c) x5) f ∧ p' = np_w x2 x8 (pl_w x4 r c) (c9_w x2 (pl_w x4 r c) x5)
theorem pm_276 {k : Int32 → Int32 → Int32 → Int32 → Int32 → Int32 → Int32 → Int32 → Int32 → Int32 → List Int32 → List Int32 → List Int32 → List Int32 → List Int32 → List Int32 → List Int32 → List Int32 → List Int32 → Option (List Int32 × List Int32 × List Int32 × List Int32 × List Int32 × List Int32 × List Int32 × List Int32 × List Int32)} {x1 x2 x4 x5 x6 x7 x8 x9 x10 x11 x12 x14 ro co : Int32} {sR sC row col bel fac hi to PS : List Int32} {z : (List Int32 × List Int32 × List Int32 × List Int32 × List Int32 × List Int32 × List Int32 × List Int32 × List Int32)} (e : fX9_movesAll_276 700 k x1 x2 x4 x5 x6 x7 x8 x9 x10 x11 x12 ((((2 : Int32) * x2) - (1 : Int32)) - x11) x14 (if x2 ≤ x11 then (0 : Int32) else (1 : Int32)) ro co sR sC row col bel fac hi to PS = some z) : ∃ fac1 hi1 to1 : List Int32, k x1 x2 x4 x5 x6 x7 x8 (x9 + (1 : Int32)) ro co sR sC row col bel fac1 hi1 to1 PS = some z ∧ ps_w hi hi1 x9.toInt.toNat (nb_w (c9_w x2 x11 x5) (o9_w x6) (PS.getD (((8 : Int32) * x12) + x11).toInt.toNat 0) x14 (bel.getD x10.toInt.toNat 0)) ∧ ps_w to to1 x9.toInt.toNat (np_w x2 x8 x11 (c9_w x2 x11 x5)) ∧ ps_w fac fac1 x10.toInt.toNat (nf_w (c9_w x2 x11 x5) (fac.getD x10.toInt.toNat 0)) := by
  rw [uf_X9_movesAll_276] at e
  by_cases c : (if x2 ≤ x11 then (0 : Int32) else (1 : Int32)) = x5
  · have hc : c9_w x2 x11 x5 = true := decide_eq_true c
    rw [if_pos c] at e
    rw [hc]
    obtain ⟨i, ei, e⟩ := mm_bd1s e
    have hi' : ((8 : Int32) * x12) + x11 = i := sm_i ei
    have e := ck_x e
    have e := ck_x e
    rw [nm_eq] at e
    by_cases d : x6 = 0
    · rw [if_pos d, uf_X9_movesAll_326] at e
      have ho : o9_w x6 = false := by
        unfold o9_w
        rw [decide_eq_true d]
        rfl
      rw [ho]
      have e := ck_x e
      rw [nm_eq] at e
      have e := ck_x e
      rw [nm_eq] at e
      have e := ck_x e
      rw [nm_eq, nm_eq] at e
      have e := ck_x e
      rw [nm_eq, uf_X9_movesAll_402, nm_eq] at e
      rw [hi']
      exact ⟨_, _, _, e, ps_is _ _ _, ps_is _ _ _, ps_is _ _ _⟩
    · rw [if_neg d, uf_X9_movesAll_326] at e
      have ho : o9_w x6 = true := by
        unfold o9_w
        rw [decide_eq_false d]
        rfl
      rw [ho]
      have e := ck_x e
      rw [nm_eq] at e
      have e := ck_x e
      rw [nm_eq] at e
      have e := ck_x e
      rw [nm_eq, nm_eq] at e
      have e := ck_x e
      rw [nm_eq, uf_X9_movesAll_402, nm_eq] at e
      rw [hi']
      exact ⟨_, _, _, e, ps_is _ _ _, ps_is _ _ _, ps_is _ _ _⟩
  · have hc : c9_w x2 x11 x5 = false := decide_eq_false c
    rw [if_neg c] at e
    rw [hc]
    by_cases d : x6 = 0
    · rw [if_pos d] at e
      have ho : o9_w x6 = false := by
        unfold o9_w
        rw [decide_eq_true d]
        rfl
      rw [ho]
      have e := ck_x e
      rw [uf_X9_movesAll_389] at e
      have e := ck_x e
      rw [nm_eq, nm_eq] at e
      have e := ck_x e
      rw [nm_eq, uf_X9_movesAll_402, nm_eq] at e
      exact ⟨_, _, _, e, ps_is _ _ _, ps_is _ _ _, ps_id _ _⟩
    · rw [if_neg d] at e
      have ho : o9_w x6 = true := by
        unfold o9_w
        rw [decide_eq_false d]
        rfl
      rw [ho]
      have e := ck_x e
      rw [uf_X9_movesAll_389] at e
      have e := ck_x e
      rw [nm_eq, nm_eq] at e
      have e := ck_x e
      rw [nm_eq, uf_X9_movesAll_402, nm_eq] at e
      exact ⟨_, _, _, e, ps_is _ _ _, ps_is _ _ _, ps_id _ _⟩
theorem pm_217 {k : Int32 → Int32 → Int32 → Int32 → Int32 → Int32 → Int32 → Int32 → Int32 → Int32 → List Int32 → List Int32 → List Int32 → List Int32 → List Int32 → List Int32 → List Int32 → List Int32 → List Int32 → Option (List Int32 × List Int32 × List Int32 × List Int32 × List Int32 × List Int32 × List Int32 × List Int32 × List Int32)} {x1 x2 x4 x5 x6 x7 x8 x9 x11 ro co : Int32} {sR sC row col bel fac hi to PS : List Int32} {z : (List Int32 × List Int32 × List Int32 × List Int32 × List Int32 × List Int32 × List Int32 × List Int32 × List Int32)} {o : Nat} (ho : (((32 : Int32) * x1) + x9).toInt.toNat = o) (h11 : x11 = pl_w x4 (row.getD o 0) (col.getD o 0)) (e : fX9_movesAll_217 700 k x1 x2 x4 x5 x6 x7 x8 x9 (((32 : Int32) * x1) + x9) x11 (if x4 = 0 then (1 : Int32) else (0 : Int32)) x9 x1 ro co sR sC row col bel fac hi to PS = some z) : ∃ fac1 hi1 to1 : List Int32, k x1 x2 x4 x5 x6 x7 x8 (x9 + (1 : Int32)) ro co sR sC row col bel fac1 hi1 to1 PS = some z ∧ ∃ b' f' p' : Int32, mr_w PS x7 x4 x5 x6 x2 x8 (row.getD o 0) (col.getD o 0) (bel.getD o 0) (fac.getD o 0) b' f' p' ∧ ps_w hi hi1 x9.toInt.toNat b' ∧ ps_w to to1 x9.toInt.toNat p' ∧ ps_w fac fac1 o f' := by
  rw [uf_X9_movesAll_217] at e
  obtain ⟨a, ea, e⟩ := mm_bd1s e
  have ha := pl_e ea
  rw [pl_not, ho] at ha
  rw [nm_eq, wn_x, bs_1, i_64, i_64] at e
  have n0 : (0 : Int64).toInt = 0 := by decide
  rw [n0] at e
  unfold mr_w
  have hiw : iw_w x4 (row.getD o 0) (col.getD o 0) = ((8 : Int32) * a) + x11 := by
    unfold iw_w
    rw [← ha, ← h11]
  rw [hiw, ← ha, ← h11, ← ho]
  have key : ∀ t : Int32, fX9_movesAll_263 700 k x1 x2 x4 x5 x6 x7 x8 x9 (((32 : Int32) * x1) + x9) x11 a ((((2 : Int32) * x2) - (1 : Int32)) - x11) t ro co sR sC row col bel fac hi to PS = some z → t = th_w PS x7 ((((2 : Int32) * x2) - (1 : Int32)) - x11) a → ∃ fac1 hi1 to1 : List Int32, k x1 x2 x4 x5 x6 x7 x8 (x9 + (1 : Int32)) ro co sR sC row col bel fac1 hi1 to1 PS = some z ∧ ∃ b' f' p' : Int32, (b' = nb_w (c9_w x2 x11 x5) (o9_w x6) (PS.getD (((8 : Int32) * a) + x11).toInt.toNat 0) (th_w PS x7 ((((2 : Int32) * x2) - (1 : Int32)) - x11) a) (bel.getD (((32 : Int32) * x1) + x9).toInt.toNat 0) ∧ f' = nf_w (c9_w x2 x11 x5) (fac.getD (((32 : Int32) * x1) + x9).toInt.toNat 0) ∧ p' = np_w x2 x8 x11 (c9_w x2 x11 x5)) ∧ ps_w hi hi1 x9.toInt.toNat b' ∧ ps_w to to1 x9.toInt.toNat p' ∧ ps_w fac fac1 (((32 : Int32) * x1) + x9).toInt.toNat f' := by
    intro t e ht
    rw [uf_X9_movesAll_263] at e
    have e2 : fX9_movesAll_276 700 k x1 x2 x4 x5 x6 x7 x8 x9 (((32 : Int32) * x1) + x9) x11 a ((((2 : Int32) * x2) - (1 : Int32)) - x11) t (if x2 ≤ x11 then (0 : Int32) else (1 : Int32)) ro co sR sC row col bel fac hi to PS = some z := by
      by_cases g : x2 ≤ x11
      · rw [if_pos g] at e ⊢
        exact e
      · rw [if_neg g] at e ⊢
        exact e
    obtain ⟨fac1, hi1, to1, q, q1, q2, q3⟩ := pm_276 e2
    rw [ht] at q1
    exact ⟨fac1, hi1, to1, q, _, _, _, ⟨rfl, rfl, rfl⟩, q1, q2, q3⟩
  by_cases g : 0 ≤ ((((2 : Int32) * x2) - (1 : Int32)) - x11).toInt ∧ ((((2 : Int32) * x2) - (1 : Int32)) - x11).toInt ≤ (x7 - (1 : Int32)).toInt
  · rw [decide_eq_true g, if_neg (by decide)] at e
    obtain ⟨i, ei, e⟩ := mm_bd1s e
    have hi' : ((8 : Int32) * a) + ((((2 : Int32) * x2) - (1 : Int32)) - x11) = i := sm_i ei
    subst hi'
    refine key _ (ck_x e) ?_
    unfold th_w
    rw [if_pos g]
    rfl
  · rw [decide_eq_false g, if_pos rfl] at e
    refine key _ e ?_
    unfold th_w
    rw [if_neg g]
