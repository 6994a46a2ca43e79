/-! limit, undo, redo: class and reference alike -/
theorem wp_get {α : Type} {o : Option α} {Q : α → Prop} {a : α} (h : wp o Q) (e : o = some a) : Q a := by
  obtain ⟨r, e1, q⟩ := h
  rw [e1] at e
  injection e with e
  rw [← e]
  exact q
theorem ck_t {α : Type} {c : Bool} {x : Option α} (h : c = true) : mm_ck c x = x := by
  unfold mm_ck
  rw [if_pos h]
theorem nm_eq {α β : Type} (x : α) (k : α → Option β) : mm_nm x k = k x := rfl
theorem bs_1 {α β : Type} (a : α) (k : α → Option β) : mm_bd1 (some a) k = k a := rfl
theorem bs_2 {α0 α1 β : Type} (a0 : α0) (a1 : α1) (k : α0 → α1 → Option β) : mm_bd2 (some (a0, a1)) k = k a0 a1 := rfl
theorem bs_3 {α0 α1 α2 β : Type} (a0 : α0) (a1 : α1) (a2 : α2) (k : α0 → α1 → α2 → Option β) : mm_bd3 (some (a0, a1, a2)) k = k a0 a1 a2 := rfl
def shf (l : List Int32) (k : Nat) : List Int32 := l.take (k - 1) ++ (l.drop k ++ l.drop 39)
theorem shf_step (l : List Int32) (j : Nat) (h : j + 1 < 40) (hl : l.length = 40) : shf (l.set j (l.getD (j + 1) 0)) (j + 2) = shf l (j + 1) := by
  unfold shf
  have h1 : (l.set j (l.getD (j + 1) 0)).take (j + 2 - 1) = l.take j ++ [l.getD (j + 1) 0] := by
    rw [show j + 2 - 1 = j + 1 by omega, List.take_add_one, List.take_set_of_le (Nat.le_refl j), List.getElem?_set_self (by omega)]
    rfl
  have h2 : l.drop (j + 1) = l.getD (j + 1) 0 :: l.drop (j + 2) := by
    rw [List.drop_eq_getElem_cons (by omega), List.getD_eq_getElem?_getD, List.getElem?_eq_getElem (by omega)]
    rfl
  rw [h1, h2, List.drop_set_of_lt (by omega), List.drop_set_of_lt (by omega), show j + 1 - 1 = j by omega, List.append_assoc]
  rfl
theorem shf_end (l : List Int32) (hl : l.length = 40) : shf l 40 = l := by
  unfold shf
  rw [List.drop_of_length_le (by omega), List.nil_append, show 40 - 1 = 39 by omega, List.take_append_drop]
theorem shf_cp (l : List Int32) (hl : l.length = 40) : mm_cp l l (1 : Int32) (0 : Int32) (39 : Int32) = shf l 1 := by
  unfold mm_cp shf
  rw [show (1 : Int32).toNatClampNeg = 1 by decide, show (0 : Int32).toNatClampNeg = 0 by decide, show (39 : Int32).toNatClampNeg = 39 by decide, List.take_of_length_le (l := l.drop 1) (by rw [List.length_drop]; omega)]
theorem shf_len (l : List Int32) (hl : l.length = 40) : (shf l 1).length = 40 := by
  unfold shf
  rw [List.length_append, List.length_append, List.length_take, List.length_drop, List.length_drop]
  omega
theorem li_39 (x1 x2 k d : Int32) (lim : List Int32) : ∀ (i n j : Nat) (x3 : Int32) (was is : List Int32), i + j = 39 → i < n → x3.toInt = j + 1 → was.length = 40 → is.length = 40 → fX9_limit_39 700 n x1 x2 x3 k d lim was is = fX9_limit_89 700 x1 x2 k (d - (1 : Int32)) lim (shf was (j + 1)) (shf is (j + 1)) := by
  have n40 : (40 : Int32).toInt = 40 := by decide
  have n1 : (1 : Int32).toInt = 1 := by decide
  intro i
  induction i with
  | zero =>
    intro n j x3 was is e hn hx h1 h2
    obtain ⟨n, rfl⟩ : ∃ m, n = m + 1 := ⟨n - 1, by omega⟩
    obtain rfl : j = 39 := by omega
    rw [shf_end _ h1, shf_end _ h2]
    show (if (40 : Int32) ≤ x3 then _ else _) = _
    rw [if_pos (by rw [Int32.le_iff_toInt_le]; omega)]
    rfl
  | succ i ih =>
    intro n j x3 was is e hn hx h1 h2
    obtain ⟨n, rfl⟩ : ∃ m, n = m + 1 := ⟨n - 1, by omega⟩
    have ea : (x3 - (1 : Int32)).toInt = j := by rw [i_subE rfl (by omega) (by omega)]; omega
    have eb : (x3 + (1 : Int32)).toInt = (j + 1 : Nat) + 1 := by rw [i_addE rfl (by omega) (by omega)]; omega
    have c3 : x3.toNatClampNeg = j + 1 := by show x3.toInt.toNat = _; omega
    have c2 : (x3 - (1 : Int32)).toNatClampNeg = j := by show (x3 - (1 : Int32)).toInt.toNat = _; omega
    have L := ih n (j + 1) (x3 + (1 : Int32)) (mm_is was (x3 - (1 : Int32)) (mm_ig was x3)) (mm_is is (x3 - (1 : Int32)) (mm_ig is x3)) (by omega) (by omega) eb (by rw [is_len]; exact h1) (by rw [is_len]; exact h2)
    have s1 : shf (mm_is was (x3 - (1 : Int32)) (mm_ig was x3)) (j + 1 + 1) = shf was (j + 1) := by
      unfold mm_is mm_ig
      rw [c2, c3]
      exact shf_step was j (by omega) h1
    have s2 : shf (mm_is is (x3 - (1 : Int32)) (mm_ig is x3)) (j + 1 + 1) = shf is (j + 1) := by
      unfold mm_is mm_ig
      rw [c2, c3]
      exact shf_step is j (by omega) h2
    rw [s1, s2] at L
    rw [← L]
    show (if (40 : Int32) ≤ x3 then _ else _) = _
    rw [if_neg (by rw [Int32.le_iff_toInt_le]; omega)]
    rw [ck_t (i_inb (by omega) (by omega)), nm_eq, ck_t (i_inb (by omega) (by omega)), nm_eq, ck_t (i_inb (by omega) (by omega)), nm_eq, ck_t (i_inb (by omega) (by omega)), nm_eq, nm_eq]
def rl_ch (v_value v_done v_size : Int32) (v_before v_after : List Int32) (m_keptMany m_done : Int32) (m_limit m_changeWas m_changeIs : List Int32) : Prop := m_keptMany = v_size ∧ m_done = v_done ∧ m_limit = [v_value] ∧ m_changeWas = v_before ∧ m_changeIs = v_after
theorem rl_same {v d s : Int32} {b a : List Int32} : rl_ch v d s b a s d [v] b a := ⟨rfl, rfl, rfl, rfl, rfl⟩
theorem li_89 (x v k d d' s : Int32) (b a : List Int32) (h0 : 0 ≤ d.toInt) (h1 : d.toInt < 40) (hb : b.length = 40) (ha : a.length = 40) : fX0_become_22 700 x v d s b a = some (x, d + (1 : Int32), d + (1 : Int32), mm_is b d v, mm_is a d x) ∧ fX9_limit_89 700 x v k d [v] b a = some (v, d + (1 : Int32), d + (1 : Int32), [x], mm_is b d v, mm_is a d x) := by
  unfold fX0_become_22 fX9_limit_89
  constructor
  · rw [ck_t (i_inb (by omega) (by omega)), nm_eq, ck_t (i_inb (by omega) (by omega)), nm_eq, nm_eq]
  · rw [ck_t (i_inb (by omega) (by omega)), nm_eq, ck_t (i_inb (by omega) (by omega)), nm_eq, nm_eq, ck_t (show mm_inb (0 : Int32) [v].length = true by rfl), nm_eq]
    rfl
theorem rc_limit {x v d s : Int32} {b a : List Int32} (g : gi_ch d s b a) : ∃ (r v' d' s' : Int32) (b' a' : List Int32), fX8_limit 700 x v d s b a = some (r, v', d', s', b', a') ∧ fX9_limit 700 x s d [v] b a = some (r, s', d', [v'], b', a') := by
  obtain ⟨a0, a1, a2, a3, a4, a5⟩ := g
  have n1 : (1 : Int32).toInt = 1 := by decide
  have n40 : (40 : Int32).toInt = 40 := by decide
  have n99 : (99 : Int32).toInt = 99 := by decide
  have m1 : (1 : Int64).toInt = 1 := by decide
  have m99 : (99 : Int64).toInt = 99 := by decide
  have mx := i_64 x
  unfold fX8_limit fX9_limit
  obtain ⟨w, ew, qw⟩ := sf_X9_within (Nat.le_refl 700) (x0 := x.toInt64) (x2 := 1) (x4 := 99)
  rw [ew]
  rcases qw with ⟨rfl, q0, q1⟩ | ⟨rfl, q0⟩
  · rw [if_neg (by rw [Int32.lt_iff_toInt_lt]; omega), if_pos (by rw [Int32.le_iff_toInt_le]; omega)]
    unfold fX0_become
    rw [bs_1, if_neg (show ¬ (true = false) by decide), ck_t (show mm_inb (0 : Int32) [v].length = true by rfl), nm_eq, show mm_ig [v] (0 : Int32) = v from rfl]
    by_cases e : x = v
    · rw [if_pos e, if_pos e.symm]
      exact ⟨_, _, _, _, _, _, rfl, rfl⟩
    · rw [if_neg e, if_neg (show ¬ v = x from fun h => e h.symm)]
      by_cases e4 : d = (40 : Int32)
      · rw [if_pos e4, if_pos e4]
        have hd : (d - (1 : Int32)).toInt = 39 := by rw [i_subE rfl (by rw [e4]; omega) (by rw [e4]; omega), e4]; omega
        obtain ⟨k1, k2⟩ := li_89 x v s (d - (1 : Int32)) d s (shf b 1) (shf a 1) (by omega) (by omega) (shf_len b a4) (shf_len a a5)
        rw [show fX0_forgetOldest 700 d b a = some (d - (1 : Int32), shf b 1, shf a 1) by
          unfold fX0_forgetOldest
          rw [a4, ck_t (by decide), nm_eq, a5, ck_t (by decide), nm_eq, nm_eq, shf_cp b a4, shf_cp a a5]]
        rw [li_39 x v s d [v] 39 700 0 1 b a (by omega) (by omega) (by omega) a4 a5]
        rw [bs_3, k1, k2]
        exact ⟨_, _, _, _, _, _, rfl, rfl⟩
      · rw [if_neg e4, if_neg e4]
        have hd : d.toInt < 40 := by
          have : d.toInt ≠ 40 := fun h => e4 (Int32.toInt_inj.mp (by omega))
          omega
        obtain ⟨k1, k2⟩ := li_89 x v s d d s b a a0 hd a4 a5
        rw [k1, k2]
        exact ⟨_, _, _, _, _, _, rfl, rfl⟩
  · refine ⟨(-1 : Int32), v, d, s, b, a, ?_, rfl⟩
    by_cases c : x < (1 : Int32)
    · rw [if_pos c]
    · rw [if_neg c, if_neg (by rw [Int32.lt_iff_toInt_lt] at c; rw [Int32.le_iff_toInt_le]; omega)]
theorem rc_undo {v d s : Int32} {b a : List Int32} (g : gi_ch d s b a) : ∃ (r v' d' : Int32), fX8_undo 700 v d b = some (r, v', d') ∧ fX9_undo 700 d [v] b = some (r, d', [v']) := by
  obtain ⟨a0, a1, a2, a3, a4, a5⟩ := g
  have n1 : (1 : Int32).toInt = 1 := by decide
  have n0 : (0 : Int32).toInt = 0 := by decide
  unfold fX8_undo fX9_undo fX0_stepBack
  by_cases e : d = 0
  · rw [if_pos e, if_pos e]
    exact ⟨_, _, _, rfl, rfl⟩
  · rw [if_neg e, if_neg e]
    have hd : 0 < d.toInt := by
      have : d.toInt ≠ 0 := fun h => e (Int32.toInt_inj.mp (by omega))
      omega
    have ed : (d - (1 : Int32)).toInt = d.toInt - 1 := by rw [i_subE rfl (by omega) (by omega)]; omega
    rw [if_neg (by rw [Int32.le_iff_toInt_le]; omega)]
    rw [nm_eq, nm_eq, ck_t (i_inb (by omega) (by omega)), bs_2, nm_eq, ck_t (i_inb (by omega) (by omega)), nm_eq, ck_t (show mm_inb (0 : Int32) [v].length = true by rfl), nm_eq]
    exact ⟨_, _, _, rfl, rfl⟩
theorem rc_redo {v d s : Int32} {b a : List Int32} (g : gi_ch d s b a) (h : d.toInt ≤ s.toInt) : ∃ (r v' d' : Int32), fX8_redo 700 v d s a = some (r, v', d') ∧ fX9_redo 700 s d [v] a = some (r, d', [v']) := by
  obtain ⟨a0, a1, a2, a3, a4, a5⟩ := g
  have n1 : (1 : Int32).toInt = 1 := by decide
  unfold fX8_redo fX9_redo fX0_stepOn
  by_cases e : d = s
  · rw [if_pos e, if_pos e]
    exact ⟨_, _, _, rfl, rfl⟩
  · rw [if_neg e, if_neg e]
    have hd : d.toInt < s.toInt := by
      have : d.toInt ≠ s.toInt := fun h => e (Int32.toInt_inj.mp h)
      omega
    rw [if_neg (by rw [Int32.le_iff_toInt_le]; omega)]
    rw [ck_t (i_inb (by omega) (by omega)), nm_eq, nm_eq, bs_2, ck_t (i_inb (by omega) (by omega)), nm_eq, ck_t (show mm_inb (0 : Int32) [v].length = true by rfl), nm_eq, nm_eq]
    exact ⟨_, _, _, rfl, rfl⟩
