/-! Ints without their wrapping; rows and their ranges -/
theorem i_bm (x : Int) : ∃ k : Int, x.bmod 4294967296 = x - 4294967296 * k ∧ -2147483648 ≤ x.bmod 4294967296 ∧ x.bmod 4294967296 < 2147483648 := by
  refine ⟨(x - x.bmod 4294967296) / 4294967296, ?_, ?_, ?_⟩
  · have h : x.bmod 4294967296 = x % 4294967296 ∨ x.bmod 4294967296 = x % 4294967296 - 4294967296 := by
      unfold Int.bmod
      dsimp only
      split <;> omega
    omega
  · have := Int.le_bmod (x := x) (m := 4294967296) (by decide)
    omega
  · have := Int.bmod_lt (x := x) (m := 4294967296) (by decide)
    omega
theorem i_addW (a b : Int32) : ∃ k : Int, (a + b).toInt = a.toInt + b.toInt - 4294967296 * k ∧ -2147483648 ≤ (a + b).toInt ∧ (a + b).toInt < 2147483648 := by
  rw [Int32.toInt_add]; exact i_bm _
theorem i_subW (a b : Int32) : ∃ k : Int, (a - b).toInt = a.toInt - b.toInt - 4294967296 * k ∧ -2147483648 ≤ (a - b).toInt ∧ (a - b).toInt < 2147483648 := by
  rw [Int32.toInt_sub]; exact i_bm _
theorem i_mulW (a b : Int32) : ∃ k : Int, (a * b).toInt = a.toInt * b.toInt - 4294967296 * k ∧ -2147483648 ≤ (a * b).toInt ∧ (a * b).toInt < 2147483648 := by
  rw [Int32.toInt_mul]; exact i_bm _
theorem i_add {a b : Int32} (h1 : -2147483648 ≤ a.toInt + b.toInt) (h2 : a.toInt + b.toInt < 2147483648) : (a + b).toInt = a.toInt + b.toInt := by
  obtain ⟨k, e1, e2, e3⟩ := i_addW a b
  omega
theorem i_sub {a b : Int32} (h1 : -2147483648 ≤ a.toInt - b.toInt) (h2 : a.toInt - b.toInt < 2147483648) : (a - b).toInt = a.toInt - b.toInt := by
  obtain ⟨k, e1, e2, e3⟩ := i_subW a b
  omega
theorem i_mul {a b : Int32} (h1 : -2147483648 ≤ a.toInt * b.toInt) (h2 : a.toInt * b.toInt < 2147483648) : (a * b).toInt = a.toInt * b.toInt := by
  obtain ⟨k, e1, e2, e3⟩ := i_mulW a b
  omega
theorem i_lt {a b : Int32} (h : a < b) : a.toInt < b.toInt := Int32.lt_iff_toInt_lt.mp h
theorem i_nlt {a b : Int32} (h : ¬ a < b) : b.toInt ≤ a.toInt := by
  have : ¬ a.toInt < b.toInt := fun k => h (Int32.lt_iff_toInt_lt.mpr k)
  omega
theorem i_le {a b : Int32} (h : a ≤ b) : a.toInt ≤ b.toInt := Int32.le_iff_toInt_le.mp h
theorem i_nle {a b : Int32} (h : ¬ a ≤ b) : b.toInt < a.toInt := by
  have : ¬ a.toInt ≤ b.toInt := fun k => h (Int32.le_iff_toInt_le.mpr k)
  omega
theorem i_eq {a b : Int32} (h : a = b) : a.toInt = b.toInt := by rw [h]
theorem i_ne {a b : Int32} (h : ¬ a = b) : ¬ a.toInt = b.toInt := fun k => h (Int32.toInt_inj.mp k)
theorem i_inb {i : Int32} {n : Nat} (h0 : 0 ≤ i.toInt) (h1 : i.toInt < n) : mm_inb i n = true := by
  unfold mm_inb
  have z : (0 : Int32).toInt = 0 := by decide
  have e1 : (0 : Int32) ≤ i := Int32.le_iff_toInt_le.mpr (by omega)
  have e2 : i.toNatClampNeg < n := by
    show i.toInt.toNat < n
    omega
  rw [decide_eq_true e1, decide_eq_true e2]
  rfl
theorem i_nz {i : Int32} (h : ¬ i.toInt = 0) : mm_nz i = true := by
  unfold mm_nz
  exact decide_eq_true (fun k => h (by rw [k]; decide))
theorem i_cok {sp dp n : Int32} {a b : Nat} (h1 : 0 ≤ sp.toInt) (h2 : 0 ≤ dp.toInt) (h3 : 0 ≤ n.toInt) (h4 : sp.toInt + n.toInt ≤ a) (h5 : dp.toInt + n.toInt ≤ b) : mm_cok sp dp n a b = true := by
  have z : (0 : Int32).toInt = 0 := by decide
  unfold mm_cok
  rw [decide_eq_true (Int32.le_iff_toInt_le.mpr (by omega)), decide_eq_true (Int32.le_iff_toInt_le.mpr (by omega)), decide_eq_true (Int32.le_iff_toInt_le.mpr (by omega)), decide_eq_true (show sp.toNatClampNeg + n.toNatClampNeg ≤ a from (show sp.toInt.toNat + n.toInt.toNat ≤ a by omega)), decide_eq_true (show dp.toNatClampNeg + n.toNatClampNeg ≤ b from (show dp.toInt.toNat + n.toInt.toNat ≤ b by omega))]
  rfl
theorem i_b (r : Bool) : 0 ≤ (mm_b r).toInt ∧ (mm_b r).toInt ≤ 1 := by cases r <;> decide
theorem i_max (a b : Int32) : (mm_max a b).toInt = max a.toInt b.toInt := by
  unfold mm_max
  by_cases h : a < b
  · have := i_lt h
    rw [if_pos h]; omega
  · have := i_nlt h
    rw [if_neg h]; omega
theorem i_min (a b : Int32) : (mm_min a b).toInt = min a.toInt b.toInt := by
  unfold mm_min
  by_cases h : b < a
  · have := i_lt h
    rw [if_pos h]; omega
  · have := i_nlt h
    rw [if_neg h]; omega
theorem i_div (x c : Int32) (hc : 0 < c.toInt) : x.toInt < 0 ∨ (x / c).toInt = x.toInt / c.toInt := by
  by_cases h : x.toInt < 0
  · exact Or.inl h
  · refine Or.inr ?_
    rw [Int32.toInt_div_of_ne_right x c (fun k => by rw [k] at hc; exact absurd hc (by decide))]
    exact Int.tdiv_eq_ediv_of_nonneg (by omega)
theorem i_rem (x c : Int32) (hc : 0 < c.toInt) : x.toInt < 0 ∨ ((mm_rem x c).toInt = x.toInt % c.toInt ∧ 0 ≤ (mm_rem x c).toInt ∧ (mm_rem x c).toInt < c.toInt) := by
  rcases i_div x c hc with h | h
  · exact Or.inl h
  · by_cases hx : x.toInt < 0
    · exact Or.inl hx
    · refine Or.inr ?_
      have e : (mm_rem x c).toInt = x.toInt % c.toInt := by
        show (x - x / c * c).toInt = _
        have l1 := Int32.toInt_lt x
        have q1 : 0 ≤ x.toInt / c.toInt := Int.ediv_nonneg (by omega) (by omega)
        have q2 : x.toInt / c.toInt * c.toInt ≤ x.toInt := Int.ediv_mul_le _ (by omega)
        have q3 : 0 ≤ x.toInt / c.toInt * c.toInt := Int.mul_nonneg q1 (by omega)
        have m1 : (x / c * c).toInt = x.toInt / c.toInt * c.toInt := by
          rw [i_mul (by rw [h]; omega) (by rw [h]; omega), h]
        rw [i_sub (by rw [m1]; omega) (by rw [m1]; omega), m1]
        have := Int.emod_def x.toInt c.toInt
        rw [this, Int.mul_comm c.toInt]
      have p1 := Int.emod_nonneg x.toInt (show c.toInt ≠ 0 by omega)
      have p2 := Int.emod_lt_of_pos x.toInt hc
      omega
theorem i_addY {a b z : Int32} (h : a + b = z) : ∃ k : Int, z.toInt = a.toInt + b.toInt - 4294967296 * k ∧ -2147483648 ≤ z.toInt ∧ z.toInt < 2147483648 := by subst h; exact i_addW a b
theorem i_subY {a b z : Int32} (h : a - b = z) : ∃ k : Int, z.toInt = a.toInt - b.toInt - 4294967296 * k ∧ -2147483648 ≤ z.toInt ∧ z.toInt < 2147483648 := by subst h; exact i_subW a b
theorem i_mulY {a b z : Int32} (h : a * b = z) : ∃ k : Int, z.toInt = a.toInt * b.toInt - 4294967296 * k ∧ -2147483648 ≤ z.toInt ∧ z.toInt < 2147483648 := by subst h; exact i_mulW a b
theorem i_divY {x c z : Int32} (h : x / c = z) (hc : 0 < c.toInt) : x.toInt < 0 ∨ z.toInt = x.toInt / c.toInt := by subst h; exact i_div x c hc
theorem i_remY {x c z : Int32} (h : mm_rem x c = z) (hc : 0 < c.toInt) : x.toInt < 0 ∨ (z.toInt = x.toInt % c.toInt ∧ 0 ≤ z.toInt ∧ z.toInt < c.toInt) := by subst h; exact i_rem x c hc
theorem i_mulL {a b z : Int32} {c : Int} (hc : a.toInt = c) (h : a * b = z) : ∃ k : Int, z.toInt = c * b.toInt - 4294967296 * k ∧ -2147483648 ≤ z.toInt ∧ z.toInt < 2147483648 := by rw [← hc]; exact i_mulY h
theorem i_mulR {a b z : Int32} {c : Int} (hc : b.toInt = c) (h : a * b = z) : ∃ k : Int, z.toInt = a.toInt * c - 4294967296 * k ∧ -2147483648 ≤ z.toInt ∧ z.toInt < 2147483648 := by rw [← hc]; exact i_mulY h
theorem i_divL {x b z : Int32} {c : Int} (hc : b.toInt = c) (h0 : 0 < c) (h : x / b = z) : x.toInt < 0 ∨ z.toInt = x.toInt / c := by rw [← hc] at h0 ⊢; exact i_divY h h0
theorem i_remL {x b z : Int32} {c : Int} (hc : b.toInt = c) (h0 : 0 < c) (h : mm_rem x b = z) : x.toInt < 0 ∨ (z.toInt = x.toInt % c ∧ 0 ≤ z.toInt ∧ z.toInt < c) := by rw [← hc] at h0 ⊢; exact i_remY h h0
theorem i_addE {a b z : Int32} (h : a + b = z) (h1 : -2147483648 ≤ a.toInt + b.toInt) (h2 : a.toInt + b.toInt < 2147483648) : z.toInt = a.toInt + b.toInt := by subst h; exact i_add h1 h2
theorem i_subE {a b z : Int32} (h : a - b = z) (h1 : -2147483648 ≤ a.toInt - b.toInt) (h2 : a.toInt - b.toInt < 2147483648) : z.toInt = a.toInt - b.toInt := by subst h; exact i_sub h1 h2
theorem i_mulLE {a b z : Int32} {c : Int} (hc : a.toInt = c) (h : a * b = z) (h1 : -2147483648 ≤ c * b.toInt) (h2 : c * b.toInt < 2147483648) : z.toInt = c * b.toInt := by subst h; rw [← hc] at h1 h2 ⊢; exact i_mul h1 h2
theorem i_mulRE {a b z : Int32} {c : Int} (hc : b.toInt = c) (h : a * b = z) (h1 : -2147483648 ≤ a.toInt * c) (h2 : a.toInt * c < 2147483648) : z.toInt = a.toInt * c := by subst h; rw [← hc] at h1 h2 ⊢; exact i_mul h1 h2
theorem i_divE {x b z : Int32} {c : Int} (hc : b.toInt = c) (h0 : 0 < c) (h : x / b = z) (hx : 0 ≤ x.toInt) : z.toInt = x.toInt / c := by
  rcases i_divL hc h0 h with k | k
  · exact absurd hx (by omega)
  · exact k
theorem i_remE {x b z : Int32} {c : Int} (hc : b.toInt = c) (h0 : 0 < c) (h : mm_rem x b = z) (hx : 0 ≤ x.toInt) : z.toInt = x.toInt % c := by
  rcases i_remL hc h0 h with k | k
  · exact absurd hx (by omega)
  · exact k.1
theorem i_maxY {a b z : Int32} (h : mm_max a b = z) : z.toInt = max a.toInt b.toInt := by subst h; exact i_max a b
theorem i_minY {a b z : Int32} (h : mm_min a b = z) : z.toInt = min a.toInt b.toInt := by subst h; exact i_min a b
theorem i_bY {r : Bool} {z : Int32} (h : mm_b r = z) : 0 ≤ z.toInt ∧ z.toInt ≤ 1 := by subst h; exact i_b r
theorem i_64 (x : Int32) : x.toInt64.toInt = x.toInt := Int32.toInt_toInt64 x
theorem is_len (l : List Int32) (i x : Int32) : (mm_is l i x).length = l.length := by
  unfold mm_is; rw [List.length_set]
theorem ls_len (l : List Int64) (i : Int32) (x : Int64) : (mm_ls l i x).length = l.length := by
  unfold mm_ls; rw [List.length_set]
theorem cp_len {α : Type} {xs ys : List α} {sp dp n : Int32} (h : mm_cok sp dp n xs.length ys.length = true) : (mm_cp xs ys sp dp n).length = ys.length := by
  unfold mm_cok at h
  simp only [Bool.and_eq_true, decide_eq_true_eq] at h
  unfold mm_cp
  rw [List.length_append, List.length_append, List.length_take, List.length_take, List.length_drop, List.length_drop]
  omega
theorem ig_is (l : List Int32) (i j x : Int32) (hj : 0 ≤ j.toInt) (h : j.toInt < l.length) (hi : 0 ≤ i.toInt) : mm_ig (mm_is l i x) j = if i.toInt = j.toInt then x else mm_ig l j := by
  unfold mm_ig mm_is
  rw [List.getD_eq_getElem?_getD, List.getD_eq_getElem?_getD, List.getElem?_set]
  by_cases e : i.toInt = j.toInt
  · rw [if_pos e, if_pos (show i.toNatClampNeg = j.toNatClampNeg from (show i.toInt.toNat = j.toInt.toNat by omega)), if_pos (show i.toNatClampNeg < l.length from (show i.toInt.toNat < l.length by omega))]
    rfl
  · rw [if_neg e, if_neg (show ¬ i.toNatClampNeg = j.toNatClampNeg from (show ¬ i.toInt.toNat = j.toInt.toNat by omega))]
/-- from a on below b the row's elements are from lo on below hi -/
def zn (l : List Int32) (a b lo hi : Int) : Prop := ∀ i : Int32, 0 ≤ i.toInt → a ≤ i.toInt → i.toInt < b → i.toInt < l.length → lo ≤ (mm_ig l i).toInt ∧ (mm_ig l i).toInt < hi
theorem zn_get {l : List Int32} {a b lo hi : Int} (h : zn l a b lo hi) {i : Int32} (h0 : 0 ≤ i.toInt) (h1 : a ≤ i.toInt) (h2 : i.toInt < b) (h3 : i.toInt < l.length) : lo ≤ (mm_ig l i).toInt ∧ (mm_ig l i).toInt < hi := h i h0 h1 h2 h3
theorem zn_nil {l : List Int32} {a b lo hi : Int} (h : b ≤ a) : zn l a b lo hi := fun i _ h1 h2 _ => absurd h2 (by omega)
theorem zn_sub {l : List Int32} {a b lo hi a' b' lo' hi' : Int} (h : zn l a b lo hi) (h1 : a ≤ a') (h2 : b' ≤ b) (h3 : lo' ≤ lo) (h4 : hi ≤ hi') : zn l a' b' lo' hi' := fun i k0 k1 k2 k3 => by
  have := h i k0 (by omega) (by omega) k3
  omega
theorem zn_out {l : List Int32} {a b lo hi : Int} (h : zn l a b lo hi) {i x : Int32} (hi' : 0 ≤ i.toInt) (k : i.toInt < a ∨ b ≤ i.toInt) : zn (mm_is l i x) a b lo hi := fun j j0 j1 j2 j3 => by
  rw [is_len] at j3
  rw [ig_is l i j x j0 j3 hi', if_neg (by omega)]
  exact h j j0 j1 j2 j3
theorem zn_in {l : List Int32} {a b lo hi : Int} (h : zn l a b lo hi) {i x : Int32} (hi' : 0 ≤ i.toInt) (k1 : lo ≤ x.toInt) (k2 : x.toInt < hi) : zn (mm_is l i x) a b lo hi := fun j j0 j1 j2 j3 => by
  rw [is_len] at j3
  rw [ig_is l i j x j0 j3 hi']
  by_cases e : i.toInt = j.toInt
  · rw [if_pos e]; exact ⟨k1, k2⟩
  · rw [if_neg e]; exact h j j0 j1 j2 j3
/-- one element more, written just now -/
theorem zn_ext {l : List Int32} {a b lo hi : Int} (h : zn l a b lo hi) {i x : Int32} (hi' : 0 ≤ i.toInt) (e : i.toInt = b) (k1 : lo ≤ x.toInt) (k2 : x.toInt < hi) {b' : Int} (eb : b' = b + 1) : zn (mm_is l i x) a b' lo hi := fun j j0 j1 j2 j3 => by
  rw [is_len] at j3
  rw [ig_is l i j x j0 j3 hi']
  by_cases e' : i.toInt = j.toInt
  · rw [if_pos e']; exact ⟨k1, k2⟩
  · rw [if_neg e']; exact h j j0 j1 (by omega) j3
theorem zn_len {l : List Int32} {b lo hi : Int} (h : ∀ x ∈ l, lo ≤ x.toInt ∧ x.toInt < hi) (a : Int) : zn l a b lo hi := fun i h0 _ _ h3 => by
  have k : i.toNatClampNeg < l.length := by
    show i.toInt.toNat < _
    omega
  have e : mm_ig l i = l[i.toNatClampNeg] := by
    unfold mm_ig
    rw [List.getD_eq_getElem?_getD, List.getElem?_eq_getElem k]
    rfl
  rw [e]
  exact h _ (List.getElem_mem k)
theorem cp_all {α : Type} {xs ys : List α} {n : Int32} {m : Nat} (h1 : xs.length = m) (h2 : ys.length = m) (hn : n.toInt = m) : mm_cp xs ys 0 0 n = xs := by
  unfold mm_cp
  have e0 : (0 : Int32).toNatClampNeg = 0 := by decide
  have en : n.toNatClampNeg = m := by
    show n.toInt.toNat = m
    omega
  rw [e0, en, List.take_zero, List.drop_zero, List.nil_append, Nat.zero_add, List.take_of_length_le (by omega), List.drop_of_length_le (by omega), List.append_nil]
theorem zn_join {l : List Int32} {a b c lo hi : Int} (h1 : zn l a b lo hi) (h2 : zn l b c lo hi) : zn l a c lo hi := fun i k0 k1 k2 k3 => by
  by_cases e : i.toInt < b
  · exact h1 i k0 k1 e k3
  · exact h2 i k0 (by omega) k2 k3
/-- a product that is stepped through -/
def pm (a b c : Int) : Prop := a = b * c
theorem pm_0 {a b c : Int} (h1 : a = 0) (h2 : b = 0) : pm a b c := by unfold pm; rw [h1, h2, Int.zero_mul]
theorem pm_eq {a b c a' b' : Int} (h : pm a b c) (h1 : a' = a) (h2 : b' = b) : pm a' b' c := by rw [h1, h2]; exact h
theorem pm_step {a b c a' b' : Int} (h : pm a b c) (h1 : b' = b + 1) (h2 : a' = a + c) : pm a' b' c := by
  unfold pm at h ⊢
  rw [h1, h2, h, Int.add_mul, Int.one_mul]
theorem pm_bd {a b c : Int} (h : pm a b c) {r : Int} (h1 : 0 ≤ b) (h2 : b + 1 ≤ r) (h3 : 0 ≤ c) : 0 ≤ a ∧ a + c ≤ r * c := by
  unfold pm at h
  have k1 : 0 ≤ b * c := Int.mul_nonneg h1 h3
  have k2 : (b + 1) * c ≤ r * c := Int.mul_le_mul_of_nonneg_right h2 h3
  rw [Int.add_mul, Int.one_mul] at k2
  omega
theorem pm_end {a b c : Int} (h : pm a b c) {r : Int} (h1 : b = r) : a = r * c := by rw [← h1]; exact h
theorem nb_r (x R C : Int) : 0 ≤ x → x < R * C → 0 < C → x % C < C - 1 → x + 1 < R * C := fun h0 h1 h2 h3 => by
  by_cases e : x + 1 < R * C
  · exact e
  · exfalso
    have e' : x = R * C - 1 := by omega
    have k : (R * C - 1) % C = C - 1 := by
      have : R * C - 1 = (C - 1) + (R - 1) * C := by rw [Int.sub_mul, Int.one_mul]; omega
      rw [this, Int.add_mul_emod_self_right]
      exact Int.emod_eq_of_lt (by omega) (by omega)
    rw [e', k] at h3
    omega
/-- rows and columns -/
theorem i_fl {a b : Int32} (h1 : 1 ≤ a.toInt) (h2 : a.toInt ≤ 4) (h3 : 1 ≤ b.toInt) (h4 : b.toInt ≤ 8) : (a * b).toInt = a.toInt * b.toInt ∧ 1 ≤ a.toInt * b.toInt ∧ a.toInt * b.toInt ≤ 32 := by
  have k : a.toInt = 1 ∨ a.toInt = 2 ∨ a.toInt = 3 ∨ a.toInt = 4 := by omega
  have r : 1 ≤ a.toInt * b.toInt ∧ a.toInt * b.toInt ≤ 32 := by
    rcases k with k | k | k | k <;> rw [k] <;> omega
  exact ⟨i_mul (by omega) (by omega), r⟩
