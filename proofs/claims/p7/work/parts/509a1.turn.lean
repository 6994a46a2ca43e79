/-! Geometry: the class's turn, field by field -/
theorem ge_is (l : List Int32) (i v : Int32) (k : Nat) (hk : k < l.length) : (mm_is l i v).getD k 0 = if i.toInt.toNat = k then v else l.getD k 0 := by
  show (l.set i.toInt.toNat v).getD k 0 = _
  rw [List.getD_eq_getElem?_getD, List.getElem?_set, List.getD_eq_getElem?_getD]
  by_cases e : i.toInt.toNat = k
  · rw [if_pos e, if_pos e, if_pos (by rw [e]; exact hk)]
    rfl
  · rw [if_neg e, if_neg e]
theorem ge_ig (l : List Int32) (i : Int32) : mm_ig l i = l.getD i.toInt.toNat 0 := rfl
theorem ck_x {α : Type} {c : Bool} {x : Option α} {z : α} (h : mm_ck c x = some z) : x = some z := (mm_cks h).2
theorem sm_i {α : Type} {a b : α} (h : some a = some b) : a = b := by
  injection h
/-- l1 is l but for v at place i -/
def ps_w (l l1 : List Int32) (i : Nat) (v : Int32) : Prop := l1.length = l.length ∧ ∀ k : Nat, k < l.length → l1.getD k 0 = if i = k then v else l.getD k 0
theorem ps_is (l : List Int32) (i v : Int32) : ps_w l (mm_is l i v) i.toInt.toNat v := ⟨is_len l i v, fun k hk => ge_is l i v k hk⟩
theorem ps_id (l : List Int32) (i : Nat) : ps_w l l i (l.getD i 0) := ⟨rfl, fun k _ => by
  by_cases e : i = k
  · rw [if_pos e, e]
  · rw [if_neg e]⟩
theorem ps_at {l l1 : List Int32} {i : Nat} {v : Int32} (h : ps_w l l1 i v) (k : i < l.length) : l1.getD i 0 = v := by rw [h.2 i k, if_pos rfl]
theorem ps_ne {l l1 : List Int32} {i k : Nat} {v : Int32} (h : ps_w l l1 i v) (k1 : k < l.length) (n : i ≠ k) : l1.getD k 0 = l.getD k 0 := by rw [h.2 k k1, if_neg n]
def al_w (w r c : Int32) : Int32 := if (4 : Int32) ≤ w then r else c
def ac_w (w r c : Int32) : Int32 := if (4 : Int32) ≤ w then c else r
def csw (w : Int32) : Bool := decide ((w &&& (2 : Int32)) = 0)
def ovw (w : Int32) : Bool := decide ((w &&& (1 : Int32)) = 0)
/-- does the field at place a come? -/
def cm_w (x1 a : Int32) (b : Bool) : Bool := decide ((if x1 ≤ a then (0 : Int32) else (1 : Int32)) = mm_b b)
def np_w (x1 st a : Int32) (co : Bool) : Int32 := (if co = true then (((2 : Int32) * x1) - (1 : Int32)) - a else a) - st
def nb_w (co ov : Bool) (own met b : Int32) : Int32 := if co = true then (if ov = true then ((own - (1 : Int32)) - b) + met else (own - (1 : Int32)) - b) else (if ov = true then b else b + met)
def nf_w (co : Bool) (f : Int32) : Int32 := if co = true then (1 : Int32) - f else f
def ta_w (T : List Int32) (high wide w m x : Int32) : Int32 := if m < 0 then 0 else if m < (if (4 : Int32) ≤ w then high else wide) then (if (4 : Int32) ≤ w then mm_ig T ((m * (8 : Int32)) + x) else mm_ig T ((x * (8 : Int32)) + m)) else 0
theorem al_e {i w a : Int32} {R C : List Int32} (h : fX5_along 700 i w R C = some a) : a = al_w w (R.getD i.toInt.toNat 0) (C.getD i.toInt.toNat 0) := by
  unfold fX5_along at h
  unfold al_w
  by_cases c : (4 : Int32) ≤ w
  · rw [if_pos c] at h ⊢
    exact (sm_i (ck_x h)).symm
  · rw [if_neg c] at h ⊢
    exact (sm_i (ck_x h)).symm
theorem ac_e {i w a : Int32} {R C : List Int32} (h : fX5_across 700 i w R C = some a) : a = ac_w w (R.getD i.toInt.toNat 0) (C.getD i.toInt.toNat 0) := by
  unfold fX5_across at h
  unfold ac_w
  by_cases c : (4 : Int32) ≤ w
  · rw [if_pos c] at h ⊢
    exact (sm_i (ck_x h)).symm
  · rw [if_neg c] at h ⊢
    exact (sm_i (ck_x h)).symm
theorem sp_e {w high wide r : Int32} (h : fX5_span 700 w high wide = some r) : r = if (4 : Int32) ≤ w then high else wide := by
  unfold fX5_span at h
  by_cases c : (4 : Int32) ≤ w
  · rw [if_pos c] at h ⊢
    exact (sm_i h).symm
  · rw [if_neg c] at h ⊢
    exact (sm_i h).symm
theorem cs_e {w : Int32} {r : Bool} (h : fX5_comesFromStart 700 w = some r) : r = csw w := by
  unfold fX5_comesFromStart at h
  unfold csw
  by_cases c : (w &&& (2 : Int32)) = 0
  · rw [if_pos c] at h
    rw [decide_eq_true c]
    exact (sm_i h).symm
  · rw [if_neg c] at h
    rw [decide_eq_false c]
    exact (sm_i h).symm
theorem ov_e {w : Int32} {r : Bool} (h : fX5_comesOver 700 w = some r) : r = ovw w := by
  unfold fX5_comesOver at h
  unfold ovw
  by_cases c : (w &&& (1 : Int32)) = 0
  · rw [if_pos c] at h
    rw [decide_eq_true c]
    exact (sm_i h).symm
  · rw [if_neg c] at h
    rw [decide_eq_false c]
    exact (sm_i h).symm
theorem ta_e {m x w high wide r : Int32} {T : List Int32} (h : fX5_tallAt 700 m x w high wide T = some r) : r = ta_w T high wide w m x := by
  unfold fX5_tallAt at h
  unfold ta_w
  by_cases c : m < 0
  · rw [if_pos c] at h ⊢
    exact (sm_i h).symm
  · rw [if_neg c] at h ⊢
    obtain ⟨s, es, h⟩ := mm_bd1s h
    have hs := sp_e es
    rw [← hs]
    by_cases d : m < s
    · rw [if_pos d] at h ⊢
      by_cases f : (4 : Int32) ≤ w
      · rw [if_pos f] at h ⊢
        exact (sm_i (ck_x h)).symm
      · rw [if_neg f] at h ⊢
        exact (sm_i (ck_x h)).symm
    · rw [if_neg d] at h ⊢
      exact (sm_i h).symm
theorem sa_e {i w v : Int32} {R C R1 C1 : List Int32} (h : fX5_setAlong 700 i w v R C = some (R1, C1)) : ps_w R R1 i.toInt.toNat (if (4 : Int32) ≤ w then v else R.getD i.toInt.toNat 0) ∧ ps_w C C1 i.toInt.toNat (if (4 : Int32) ≤ w then C.getD i.toInt.toNat 0 else v) := by
  unfold fX5_setAlong at h
  by_cases c : (4 : Int32) ≤ w
  · rw [if_pos c] at h ⊢
    rw [if_pos c]
    have h := ck_x h
    rw [nm_eq] at h
    have h := sm_i h
    injection h with h1 h2
    subst h1
    subst h2
    exact ⟨ps_is _ _ _, ps_id _ _⟩
  · rw [if_neg c] at h ⊢
    rw [if_neg c]
    have h := ck_x h
    rw [nm_eq] at h
    have h := sm_i h
    injection h with h1 h2
    subst h1
    subst h2
    exact ⟨ps_id _ _, ps_is _ _ _⟩
theorem tu_188 {β : Type} {k : Int32 → Int32 → Int32 → Int32 → Int32 → Int32 → Int32 → Int32 → List Int32 → List Int32 → List Int32 → List Int32 → List Int32 → Option (Int32 × Int32 × List Int32 × List Int32 × List Int32 × List Int32 × List Int32)} {x1 x2 x4 x5 x6 rows cols high wide : Int32} {R C B F T : List Int32} {z : Int32 × Int32 × List Int32 × List Int32 × List Int32 × List Int32 × List Int32} (e : fX5_turn_188 700 k x1 x2 x4 x5 x6 rows cols high wide R C B F T = some z) : ∃ R1 C1 : List Int32, k x1 x2 x4 (x5 + (1 : Int32)) rows cols high wide R1 C1 B F T = some z ∧ ps_w R R1 x5.toInt.toNat (if (4 : Int32) ≤ x2 then x6 - x4 else R.getD x5.toInt.toNat 0) ∧ ps_w C C1 x5.toInt.toNat (if (4 : Int32) ≤ x2 then C.getD x5.toInt.toNat 0 else x6 - x4) := by
  unfold fX5_turn_188 at e
  obtain ⟨R1, C1, es, e⟩ := mm_bd2s e
  rw [nm_eq] at e
  exact ⟨R1, C1, e, sa_e es⟩
theorem tu_144 {k : Int32 → Int32 → Int32 → Int32 → Int32 → Int32 → Int32 → Int32 → List Int32 → List Int32 → List Int32 → List Int32 → List Int32 → Option (Int32 × Int32 × List Int32 × List Int32 × List Int32 × List Int32 × List Int32)} {x1 x2 x4 x5 x7 s0 s1 rows cols high wide : Int32} {R C B F T : List Int32} {z : Int32 × Int32 × List Int32 × List Int32 × List Int32 × List Int32 × List Int32} (e : fX5_turn_144 700 k x1 x2 x4 x5 x7 s0 s1 x5 rows cols high wide R C B F T = some z) : ∃ R1 C1 B1 F1 : List Int32, k x1 x2 x4 (x5 + (1 : Int32)) rows cols high wide R1 C1 B1 F1 T = some z ∧ ps_w R R1 x5.toInt.toNat (if (4 : Int32) ≤ x2 then x7 - x4 else R.getD x5.toInt.toNat 0) ∧ ps_w C C1 x5.toInt.toNat (if (4 : Int32) ≤ x2 then C.getD x5.toInt.toNat 0 else x7 - x4) ∧ ps_w B B1 x5.toInt.toNat (s1 + s0) ∧ ps_w F F1 x5.toInt.toNat ((1 : Int32) - F.getD x5.toInt.toNat 0) := by
  unfold fX5_turn_144 at e
  rw [nm_eq] at e
  have e := ck_x e
  rw [nm_eq] at e
  have e := ck_x e
  rw [nm_eq] at e
  have e := ck_x e
  rw [nm_eq] at e
  obtain ⟨R1, C1, e, h1, h2⟩ := tu_188 (β := Unit) e
  exact ⟨R1, C1, _, _, e, h1, h2, ps_is _ _ _, ps_is _ _ _⟩
/-- a field before and behind the fold -/
def mv_w (T : List Int32) (high wide w x1 st r c b f r' c' b' f' : Int32) : Prop := b' = nb_w (cm_w x1 (al_w w r c) (csw w)) (ovw w) (ta_w T high wide w (al_w w r c) (ac_w w r c)) (ta_w T high wide w ((((2 : Int32) * x1) - (1 : Int32)) - al_w w r c) (ac_w w r c)) b ∧ f' = nf_w (cm_w x1 (al_w w r c) (csw w)) f ∧ r' = (if (4 : Int32) ≤ w then np_w x1 st (al_w w r c) (cm_w x1 (al_w w r c) (csw w)) else r) ∧ c' = (if (4 : Int32) ≤ w then c else np_w x1 st (al_w w r c) (cm_w x1 (al_w w r c) (csw w)))
theorem tu_90 {k : Int32 → Int32 → Int32 → Int32 → Int32 → Int32 → Int32 → Int32 → List Int32 → List Int32 → List Int32 → List Int32 → List Int32 → Option (Int32 × Int32 × List Int32 × List Int32 × List Int32 × List Int32 × List Int32)} {x1 x2 x4 x5 a t rows cols high wide : Int32} {R C B F T : List Int32} {z : Int32 × Int32 × List Int32 × List Int32 × List Int32 × List Int32 × List Int32} (ha : a = al_w x2 (R.getD x5.toInt.toNat 0) (C.getD x5.toInt.toNat 0)) (ht : t = ta_w T high wide x2 ((((2 : Int32) * x1) - (1 : Int32)) - a) (ac_w x2 (R.getD x5.toInt.toNat 0) (C.getD x5.toInt.toNat 0))) (e : fX5_turn_90 700 k x1 x2 x4 x5 a ((((2 : Int32) * x1) - (1 : Int32)) - a) t (if x1 ≤ a then (0 : Int32) else (1 : Int32)) rows cols high wide R C B F T = some z) : ∃ R1 C1 B1 F1 : List Int32, k x1 x2 x4 (x5 + (1 : Int32)) rows cols high wide R1 C1 B1 F1 T = some z ∧ ∃ r' c' b' f' : Int32, mv_w T high wide x2 x1 x4 (R.getD x5.toInt.toNat 0) (C.getD x5.toInt.toNat 0) (B.getD x5.toInt.toNat 0) (F.getD x5.toInt.toNat 0) r' c' b' f' ∧ ps_w R R1 x5.toInt.toNat r' ∧ ps_w C C1 x5.toInt.toNat c' ∧ ps_w B B1 x5.toInt.toNat b' ∧ ps_w F F1 x5.toInt.toNat f' := by
  unfold fX5_turn_90 at e
  obtain ⟨q, eq, e⟩ := mm_bd1s e
  have hq := cs_e eq
  subst hq
  unfold mv_w
  rw [← ha, ← ht]
  by_cases c : (if x1 ≤ a then (0 : Int32) else (1 : Int32)) = mm_b (csw x2)
  · rw [if_pos c] at e
    have hc : cm_w x1 a (csw x2) = true := decide_eq_true c
    rw [hc]
    obtain ⟨x, ex, e⟩ := mm_bd1s e
    have hx := ac_e ex
    obtain ⟨o, eo, e⟩ := mm_bd1s e
    have ho := ta_e eo
    rw [hx] at ho
    rw [← ho]
    have e := ck_x e
    obtain ⟨v, ev, e⟩ := mm_bd1s e
    have hv := ov_e ev
    subst hv
    by_cases d : ovw x2 = false
    · rw [if_pos d] at e
      rw [d]
      obtain ⟨R1, C1, B1, F1, e, h1, h2, h3, h4⟩ := tu_144 e
      refine ⟨R1, C1, B1, F1, e, _, _, _, _, ⟨rfl, rfl, rfl, rfl⟩, h1, h2, ?_, h4⟩
      have z0 : ((o - (1 : Int32)) - (mm_ig B x5)) + (0 : Int32) = (o - (1 : Int32)) - (mm_ig B x5) := Int32.add_zero _
      rw [z0] at h3
      exact h3
    · rw [if_neg d] at e
      have d : ovw x2 = true := by
        cases h : ovw x2
        · exact absurd h d
        · rfl
      rw [d]
      obtain ⟨R1, C1, B1, F1, e, h1, h2, h3, h4⟩ := tu_144 e
      exact ⟨R1, C1, B1, F1, e, _, _, _, _, ⟨rfl, rfl, rfl, rfl⟩, h1, h2, h3, h4⟩
  · rw [if_neg c] at e
    have hc : cm_w x1 a (csw x2) = false := decide_eq_false c
    rw [hc]
    obtain ⟨v, ev, e⟩ := mm_bd1s e
    have hv := ov_e ev
    subst hv
    by_cases d : ovw x2 = false
    · rw [if_pos d] at e
      rw [d]
      have e := ck_x e
      rw [nm_eq] at e
      have e := ck_x e
      rw [nm_eq] at e
      obtain ⟨R1, C1, e, h1, h2⟩ := tu_188 (β := Unit) e
      exact ⟨R1, C1, _, _, e, _, _, _, _, ⟨rfl, rfl, rfl, rfl⟩, h1, h2, ps_is _ _ _, ps_id _ _⟩
    · rw [if_neg d] at e
      have d : ovw x2 = true := by
        cases h : ovw x2
        · exact absurd h d
        · rfl
      rw [d]
      obtain ⟨R1, C1, e, h1, h2⟩ := tu_188 (β := Unit) e
      exact ⟨R1, C1, _, _, e, _, _, _, _, ⟨rfl, rfl, rfl, rfl⟩, h1, h2, ps_id _ _, ps_id _ _⟩
theorem tu_35 {x1 x2 x4 rows cols high wide : Int32} {T : List Int32} {m : Nat} (hm : (rows * cols).toInt = m) (m32 : m ≤ 32) : ∀ (n : Nat) (x5 : Int32) (R C B F : List Int32) (h' w' : Int32) (R' C' B' F' T' : List Int32), fX5_turn_35 700 n x1 x2 x4 x5 rows cols high wide R C B F T = some (h', w', R', C', B', F', T') → 0 ≤ x5.toInt → x5.toInt ≤ m → R.length = 32 → C.length = 32 → B.length = 32 → F.length = 32 → (h' = (if (4 : Int32) ≤ x2 then mm_max x1 (high - x1) else high) ∧ w' = (if (4 : Int32) ≤ x2 then wide else mm_max x1 (wide - x1))) ∧ (∀ k : Nat, k < x5.toInt.toNat → R'.getD k 0 = R.getD k 0 ∧ C'.getD k 0 = C.getD k 0 ∧ B'.getD k 0 = B.getD k 0 ∧ F'.getD k 0 = F.getD k 0) ∧ (∀ k : Nat, x5.toInt.toNat ≤ k → k < m → mv_w T high wide x2 x1 x4 (R.getD k 0) (C.getD k 0) (B.getD k 0) (F.getD k 0) (R'.getD k 0) (C'.getD k 0) (B'.getD k 0) (F'.getD k 0)) := by
  have n1 : (1 : Int32).toInt = 1 := by decide
  intro n
  induction n with
  | zero =>
    intro x5 R C B F h' w' R' C' B' F' T' e
    exact absurd e (by intro h; cases h)
  | succ n ih =>
    intro x5 R C B F h' w' R' C' B' F' T' e p0 p1 l1 l2 l3 l4
    rw [uf_X5_turn_35] at e
    obtain ⟨fl, ef, e⟩ := mm_bd1s e
    have hf : rows * cols = fl := sm_i ef
    subst hf
    by_cases c : rows * cols ≤ x5
    · rw [if_pos c] at e
      have d := i_le c
      obtain ⟨s, es, e⟩ := mm_bd1s e
      obtain ⟨u, v, en, e⟩ := mm_bd2s e
      have e := sm_i e
      injection e with e1 e
      injection e with e2 e
      injection e with e3 e
      injection e with e4 e
      injection e with e5 e
      injection e with e6 e
      subst e1 e2 e3 e4 e5 e6
      refine ⟨?_, fun k hk => ⟨rfl, rfl, rfl, rfl⟩, fun k k0 k1 => absurd k1 (by omega)⟩
      unfold fX5_spanBehind at es
      obtain ⟨q, eq, es⟩ := mm_bd1s es
      have hq := sp_e eq
      have hs := sm_i es
      unfold fX5_narrow at en
      by_cases f : (4 : Int32) ≤ x2
      · rw [if_pos f] at en hq
        have en := sm_i en
        injection en with e7 e8
        rw [if_pos f, if_pos f, ← e7, ← e8, ← hs, hq]
        exact ⟨rfl, rfl⟩
      · rw [if_neg f] at en hq
        have en := sm_i en
        injection en with e7 e8
        rw [if_neg f, if_neg f, ← e7, ← e8, ← hs, hq]
        exact ⟨rfl, rfl⟩
    · rw [if_neg c] at e
      have d := i_nle c
      obtain ⟨a, ea, e⟩ := mm_bd1s e
      have ha := al_e ea
      rw [nm_eq] at e
      obtain ⟨x, ex, e⟩ := mm_bd1s e
      have hx := ac_e ex
      obtain ⟨t, et, e⟩ := mm_bd1s e
      have ht := ta_e et
      rw [hx] at ht
      have e2 : fX5_turn_90 700 (fX5_turn_35 700 n) x1 x2 x4 x5 a ((((2 : Int32) * x1) - (1 : Int32)) - a) t (if x1 ≤ a then (0 : Int32) else (1 : Int32)) rows cols high wide R C B F T = some (h', w', R', C', B', F', T') := by
        by_cases g : x1 ≤ a
        · rw [if_pos g] at e ⊢
          exact e
        · rw [if_neg g] at e ⊢
          exact e
      obtain ⟨R1, C1, B1, F1, e3, r', c', b', f', hv, s1, s2, s3, s4⟩ := tu_90 ha ht e2
      generalize hy : x5 + (1 : Int32) = y at e3
      have ey := i_addE hy (by omega) (by omega)
      obtain ⟨j1, j2, j3⟩ := ih y R1 C1 B1 F1 h' w' R' C' B' F' T' e3 (by omega) (by omega) (by rw [s1.1]; exact l1) (by rw [s2.1]; exact l2) (by rw [s3.1]; exact l3) (by rw [s4.1]; exact l4)
      refine ⟨j1, fun k hk => ?_, fun k k0 k1 => ?_⟩
      · obtain ⟨q1, q2, q3, q4⟩ := j2 k (by omega)
        rw [q1, q2, q3, q4, ps_ne s1 (by omega) (by omega), ps_ne s2 (by omega) (by omega), ps_ne s3 (by omega) (by omega), ps_ne s4 (by omega) (by omega)]
        exact ⟨rfl, rfl, rfl, rfl⟩
      · by_cases g : x5.toInt.toNat = k
        · obtain ⟨q1, q2, q3, q4⟩ := j2 k (by omega)
          rw [← g] at q1 q2 q3 q4 ⊢
          rw [q1, q2, q3, q4, ps_at s1 (by omega), ps_at s2 (by omega), ps_at s3 (by omega), ps_at s4 (by omega)]
          exact hv
        · have q := j3 k (by omega) k1
          rw [ps_ne s1 (by omega) g, ps_ne s2 (by omega) g, ps_ne s3 (by omega) g, ps_ne s4 (by omega) g] at q
          exact q
