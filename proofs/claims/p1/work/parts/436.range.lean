/-! Ranges of an int argument -/
theorem rg_p {x c : Int32} {b : Int} (hb : c.toInt = b) (h : x.toInt < b) : x < c := Int32.lt_iff_toInt_lt.mpr (by omega)
theorem rg_n {x c : Int32} {b : Int} (hb : c.toInt = b) (h : b ≤ x.toInt) : ¬ x < c := fun k => by
  have := Int32.lt_iff_toInt_lt.mp k
  omega
theorem rg_lp {x c : Int32} {b : Int} (hb : c.toInt = b) (h : b < x.toInt) : c < x := Int32.lt_iff_toInt_lt.mpr (by omega)
theorem rg_ln {x c : Int32} {b : Int} (hb : c.toInt = b) (h : x.toInt ≤ b) : ¬ c < x := fun k => by
  have := Int32.lt_iff_toInt_lt.mp k
  omega
theorem rg_ep {x c : Int32} {b : Int} (hb : c.toInt = b) (h : x.toInt ≤ b) : x ≤ c := Int32.le_iff_toInt_le.mpr (by omega)
theorem rg_en {x c : Int32} {b : Int} (hb : c.toInt = b) (h : b < x.toInt) : ¬ x ≤ c := fun k => by
  have := Int32.le_iff_toInt_le.mp k
  omega
theorem rg_mp {x c : Int32} {b : Int} (hb : c.toInt = b) (h : b ≤ x.toInt) : c ≤ x := Int32.le_iff_toInt_le.mpr (by omega)
theorem rg_mn {x c : Int32} {b : Int} (hb : c.toInt = b) (h : x.toInt < b) : ¬ c ≤ x := fun k => by
  have := Int32.le_iff_toInt_le.mp k
  omega
theorem rg_qn {x c : Int32} {b : Int} (hb : c.toInt = b) (h : x.toInt < b ∨ b < x.toInt) : ¬ x = c := fun k => by
  rw [k] at h
  omega
theorem rg_lg (y c : Int32) : (lg_cmp y.toInt64 c.toInt64) = (if c.toInt < y.toInt then 1 else if y.toInt = c.toInt then 0 else -1) := by
  have e1 : (y.toInt64 > c.toInt64) ↔ c.toInt < y.toInt := by
    rw [gt_iff_lt, Int64.lt_iff_toInt_lt, Int32.toInt_toInt64, Int32.toInt_toInt64]
  have e2 : (y.toInt64 = c.toInt64) ↔ y.toInt = c.toInt := by
    rw [← Int64.toInt_inj, Int32.toInt_toInt64, Int32.toInt_toInt64]
  unfold lg_cmp
  simp only [e1, e2]
theorem rg_lgi (y : Int64) (c : Int64) : (lg_cmp y c) = (if c.toInt < y.toInt then 1 else if y.toInt = c.toInt then 0 else -1) := by
  have e1 : (y > c) ↔ c.toInt < y.toInt := by
    rw [gt_iff_lt, Int64.lt_iff_toInt_lt]
  have e2 : (y = c) ↔ y.toInt = c.toInt := Int64.toInt_inj.symm
  unfold lg_cmp
  simp only [e1, e2]
theorem rg_lt {y c : Int64} {a b : Int} (ha : y.toInt = a) (hb : c.toInt = b) (h : a < b) : lg_cmp y c < 0 := by
  rw [rg_lgi, if_neg (by omega), if_neg (by omega)]
  decide
theorem rg_ge {y c : Int64} {a b : Int} (ha : y.toInt = a) (hb : c.toInt = b) (h : b ≤ a) : ¬ lg_cmp y c < 0 := by
  rw [rg_lgi]
  by_cases k : c.toInt < y.toInt
  · rw [if_pos k]; decide
  · rw [if_neg k, if_pos (by omega)]; decide
theorem rg_gt {y c : Int64} {a b : Int} (ha : y.toInt = a) (hb : c.toInt = b) (h : b < a) : 0 < lg_cmp y c := by
  rw [rg_lgi, if_pos (by omega)]
  decide
theorem rg_le {y c : Int64} {a b : Int} (ha : y.toInt = a) (hb : c.toInt = b) (h : a ≤ b) : ¬ 0 < lg_cmp y c := by
  rw [rg_lgi, if_neg (by omega)]
  by_cases k : y.toInt = c.toInt
  · rw [if_pos k]; decide
  · rw [if_neg k]; decide
theorem rg_gee {y c : Int64} {a b : Int} (ha : y.toInt = a) (hb : c.toInt = b) (h : b ≤ a) : 0 ≤ lg_cmp y c := by
  rw [rg_lgi]
  by_cases k : c.toInt < y.toInt
  · rw [if_pos k]; decide
  · rw [if_neg k, if_pos (by omega)]; decide
/-- outside -/
theorem rg_wf (N : Nat) (y : Int32) {A B : Int64} {a b : Int} (ha : A.toInt = a) (hb : B.toInt = b) (h : y.toInt < a ∨ b < y.toInt) : fX9_within N y.toInt64 A B = some false := by
  unfold fX9_within
  by_cases k : y.toInt < a
  · rw [if_pos (rg_lt (Int32.toInt_toInt64 y) ha k)]
  · rw [if_neg (rg_ge (Int32.toInt_toInt64 y) ha (by omega)), if_pos (rg_gt (Int32.toInt_toInt64 y) hb (by omega))]
/-- inside -/
theorem rg_wt (N : Nat) (y : Int32) {A B : Int64} {a b : Int} (ha : A.toInt = a) (hb : B.toInt = b) (h : a ≤ y.toInt) (h' : y.toInt ≤ b) : fX9_within N y.toInt64 A B = some true := by
  unfold fX9_within
  rw [if_neg (rg_ge (Int32.toInt_toInt64 y) ha h), if_neg (rg_le (Int32.toInt_toInt64 y) hb h')]
/-- a finite range -/
theorem rg_all (f : Int32 → Bool) (n : Nat) (h : ((List.range n).all (fun j => f (Int32.ofNat j))) = true) (y : Int32) (h0 : 0 ≤ y.toInt) (h1 : y.toInt < n) : f y = true := by
  have e : Int32.ofNat y.toNatClampNeg = y := Int32.ofNat_toNatClampNeg y (Int32.le_iff_toInt_le.mpr h0)
  have m : y.toNatClampNeg ∈ List.range n := by
    rw [List.mem_range]
    show y.toInt.toNat < n
    omega
  have k := List.all_eq_true.mp h _ m
  rw [e] at k
  exact k
/-- from -1 on -/
theorem rg_alm (f : Int32 → Bool) (n : Nat) (h0 : f (-1) = true) (h : ((List.range n).all (fun j => f (Int32.ofNat j))) = true) (y : Int32) (h1 : -1 ≤ y.toInt) (h2 : y.toInt < n) : f y = true := by
  by_cases k : y.toInt = -1
  · have e : y = -1 := Int32.toInt_inj.mp k
    rw [e]; exact h0
  · exact rg_all f n h y (by omega) h2
theorem rg_tri (y : Int32) (a b : Int) : y.toInt < a ∨ (a ≤ y.toInt ∧ y.toInt < b) ∨ b ≤ y.toInt := by omega
theorem rg_eq {y c : Int32} (h : y.toInt = c.toInt) : y = c := Int32.toInt_inj.mp h
/-- division by ten -/
theorem rg_d10 (y : Int32) : (y / 10).toInt = y.toInt.tdiv 10 := Int32.toInt_div_of_ne_right y 10 (by decide)
theorem rg_r10 (y : Int32) (h : 0 ≤ y.toInt) : (mm_rem y 10).toInt = y.toInt.tmod 10 := by
  show (y - y / 10 * 10).toInt = _
  rw [Int32.toInt_sub, Int32.toInt_mul, rg_d10]
  have e : (10 : Int32).toInt = 10 := by decide
  rw [e]
  have k := Int.mul_tdiv_add_tmod y.toInt 10
  have l1 := Int32.toInt_lt y
  have l2 := Int32.le_toInt y
  have b1 : y.toInt.tmod 10 < 10 := Int.tmod_lt_of_pos _ (by decide)
  have b2 : 0 ≤ y.toInt.tmod 10 := Int.tmod_nonneg 10 h
  rw [Int.bmod_eq_of_le (n := y.toInt.tdiv 10 * 10) (by omega) (by omega), Int.bmod_eq_of_le (by omega) (by omega)]
  omega
