/-! Items of the shelves -/
def it1 (i : Nat) (it m : List Int64) : Prop := ∀ k : Nat, k < 60 → m.getD (60 * i + k) 0 = it.getD k 0
theorem gd_ls (l : List Int64) (i : Int32) (v : Int64) (k : Nat) (hk : k < l.length) : (mm_ls l i v).getD k 0 = if i.toInt.toNat = k then v else l.getD k 0 := by
  unfold mm_ls
  rw [List.getD_eq_getElem?_getD, List.getD_eq_getElem?_getD, List.getElem?_set]
  by_cases e : i.toInt.toNat = k
  · rw [if_pos e, if_pos (show i.toNatClampNeg = k from e), if_pos (show i.toNatClampNeg < l.length from (show i.toInt.toNat < l.length by omega))]
    rfl
  · rw [if_neg e, if_neg (show ¬ i.toNatClampNeg = k from e)]
theorem sg_fill : ∀ (n : Nat) (x3 : Int32) (row : List Int64), row.length = 60 → 0 ≤ x3.toInt → x3.toInt ≤ 60 → (60 - x3.toInt).toNat < n → (∀ k : Nat, (k : Int) < x3.toInt → row.getD k 0 = 0) → wp (fJ7_fill_d0a16_6 700 n (0 : Int64) x3 (60 : Int32) row) (fun w => w.length = 60 ∧ ∀ k : Nat, k < 60 → w.getD k 0 = 0) := by
  have n60 : (60 : Int32).toInt = 60 := by decide
  have n1 : (1 : Int32).toInt = 1 := by decide
  intro n
  induction n with
  | zero =>
    intro x3 row h0 h1 h2 hm
    exact absurd hm (by omega)
  | succ n ih =>
    intro x3 row h0 h1 h2 hm hz
    refine wp_of (uf_J7_fill_d0a16_6 _ _ _ _ _ _) ?_
    refine wp_if (fun c => ?_) (fun c => ?_)
    · have d := i_le c
      exact wp_so1 ⟨h0, fun k hk => hz k (by omega)⟩
    · have d := i_nle c
      refine wp_ck (i_inb (by omega) (by omega)) ?_
      refine wp_nm (fun l hl => ?_)
      refine wp_nm (fun y hy => ?_)
      have ey := i_addE hy.symm (by omega) (by omega)
      refine ih y l (by rw [hl, ls_len]; exact h0) (by omega) (by omega) (by omega) (fun k hk => ?_)
      rw [hl, gd_ls row x3 0 k (by omega)]
      by_cases e : x3.toInt.toNat = k
      · rw [if_pos e]
      · rw [if_neg e]
        exact hz k (by omega)
theorem fl_z {row : List Int64} (h : row.length = 60) : wp (fJ7_fill_d0a16 700 (0 : Int64) row) (fun w => w.length = 60 ∧ ∀ k : Nat, k < 60 → w.getD k 0 = 0) := by
  have n0 : (0 : Int32).toInt = 0 := by decide
  unfold fJ7_fill_d0a16
  rw [nm_eq, h]
  exact sg_fill 700 (0 : Int32) row h (by decide) (by decide) (by decide) (fun k hk => absurd hk (by omega))
theorem sg_row57 {x1 : Int32} (a0 : 0 ≤ x1.toInt) (a1 : x1.toInt ≤ 5) {sf mn : List Int32} : ∀ (n : Nat) (x4 : Int32) (it : List Int64), it.length = 360 → 60 * x1.toInt ≤ x4.toInt → x4.toInt ≤ 60 * x1.toInt + 60 → (60 * x1.toInt + 60 - x4.toInt).toNat < n → wp (fX9_row_57 700 n x1 x4 sf mn it) (cu4 (fun (r : Int32) (s m : List Int32) (w : List Int64) => r = 1 ∧ s = sf ∧ m = mn ∧ w.length = 360 ∧ ∀ k : Nat, k < 360 → w.getD k 0 = if x4.toInt ≤ (k : Int) ∧ (k : Int) < 60 * x1.toInt + 60 then 0 else it.getD k 0)) := by
  have n60 : (60 : Int32).toInt = 60 := by decide
  have n1 : (1 : Int32).toInt = 1 := by decide
  intro n
  induction n with
  | zero =>
    intro x4 it h0 h1 h2 hm
    exact absurd hm (by omega)
  | succ n ih =>
    intro x4 it h0 h1 h2 hm
    refine wp_of (uf_X9_row_57 _ _ _ _ _ _ _) ?_
    generalize hz : ((60 : Int32) * x1) = z
    have ez := i_mulLE (c := 60) (by decide) hz (by omega) (by omega)
    generalize hz2 : (z + (60 : Int32)) = z2
    have ez2 := i_addE hz2 (by omega) (by omega)
    refine wp_if (fun c => ?_) (fun c => ?_)
    · have d := i_le c
      refine wp_so4 ⟨rfl, rfl, rfl, h0, fun k hk => ?_⟩
      rw [if_neg (by omega)]
    · have d := i_nle c
      refine wp_ck (i_inb (by omega) (by omega)) ?_
      refine wp_nm (fun l hl => ?_)
      refine wp_nm (fun y hy => ?_)
      have ey := i_addE hy.symm (by omega) (by omega)
      refine wp_cu4 (ih y l (by rw [hl, ls_len]; exact h0) (by omega) (by omega) (by omega)) (fun r s m w hw => ?_)
      obtain ⟨h1, h2, h3, h4, h5⟩ := hw
      refine ⟨h1, h2, h3, h4, fun k hk => ?_⟩
      rw [h5 k hk, hl, gd_ls it x4 0 k (by omega)]
      by_cases e : x4.toInt.toNat = k
      · rw [if_pos e, ite_self, if_pos (show x4.toInt ≤ (k : Int) ∧ (k : Int) < 60 * x1.toInt + 60 by omega)]
      · rw [if_neg e]
        by_cases f : y.toInt ≤ (k : Int) ∧ (k : Int) < 60 * x1.toInt + 60
        · rw [if_pos f, if_pos (show x4.toInt ≤ (k : Int) ∧ (k : Int) < 60 * x1.toInt + 60 by omega)]
        · rw [if_neg f, if_neg (show ¬ (x4.toInt ≤ (k : Int) ∧ (k : Int) < 60 * x1.toInt + 60) by omega)]
theorem sg_150 {x3 x4 x5 : Int32} {sf mn : List Int32} {car : List Int64} (hc : car.length = 60) (a0 : 0 ≤ x3.toInt) (a1 : x3.toInt ≤ 5) (a2 : 0 ≤ x4.toInt) (a3 : 0 ≤ x5.toInt) (a4 : x4.toInt + x5.toInt ≤ 60) : ∀ (n : Nat) (x6 : Int32) (it : List Int64), it.length = 360 → 0 ≤ x6.toInt → x6.toInt ≤ x5.toInt → (x5.toInt - x6.toInt).toNat < n → wp (fX9_shift_150 700 n x3 x4 x5 x6 sf mn it car) (cu3 (fun (r : Int32) (wi : List Int64) (wc : List Int64) => r = x5 ∧ wi.length = 360 ∧ ∀ k : Nat, k < 360 → wi.getD k 0 = if 60 * x3.toInt + x4.toInt + x6.toInt ≤ (k : Int) ∧ (k : Int) < 60 * x3.toInt + x4.toInt + x5.toInt then car.getD ((k : Int) - 60 * x3.toInt - x4.toInt).toNat 0 else it.getD k 0)) := by
  have n60 : (60 : Int32).toInt = 60 := by decide
  have n1 : (1 : Int32).toInt = 1 := by decide
  intro n
  induction n with
  | zero =>
    intro x6 it h0 h1 h2 hm
    exact absurd hm (by omega)
  | succ n ih =>
    intro x6 it h0 h1 h2 hm
    refine wp_of (uf_X9_shift_150 _ _ _ _ _ _ _ _ _ _) ?_
    refine wp_if (fun c => ?_) (fun c => ?_)
    · have d := i_le c
      refine wp_so3 ⟨rfl, h0, fun k hk => ?_⟩
      rw [if_neg (by omega)]
    · have d := i_nle c
      refine wp_ck (i_inb (by omega) (by omega)) ?_
      refine wp_nm (fun v hv => ?_)
      generalize hz : ((60 : Int32) * x3) = z
      have ez := i_mulLE (c := 60) (by decide) hz (by omega) (by omega)
      generalize hz2 : (z + x4) = z2
      have ez2 := i_addE hz2 (by omega) (by omega)
      generalize hz3 : (z2 + x6) = z3
      have ez3 := i_addE hz3 (by omega) (by omega)
      refine wp_ck (i_inb (by omega) (by omega)) ?_
      refine wp_nm (fun l hl => ?_)
      refine wp_nm (fun y hy => ?_)
      have ey := i_addE hy.symm (by omega) (by omega)
      refine wp_cu3 (ih y l (by rw [hl, ls_len]; exact h0) (by omega) (by omega) (by omega)) (fun r w w' hw => ?_)
      obtain ⟨q1, q2, q3⟩ := hw
      refine ⟨q1, q2, fun k hk => ?_⟩
      rw [q3 k hk, hl, gd_ls it z3 v k (by omega)]
      by_cases e : z3.toInt.toNat = k
      · have e6 : ((k : Int) - 60 * x3.toInt - x4.toInt).toNat = x6.toNatClampNeg := (show ((k : Int) - 60 * x3.toInt - x4.toInt).toNat = x6.toInt.toNat by omega)
        rw [if_pos e, if_neg (show ¬ (60 * x3.toInt + x4.toInt + y.toInt ≤ (k : Int) ∧ (k : Int) < 60 * x3.toInt + x4.toInt + x5.toInt) by omega), if_pos (show 60 * x3.toInt + x4.toInt + x6.toInt ≤ (k : Int) ∧ (k : Int) < 60 * x3.toInt + x4.toInt + x5.toInt by omega), e6, hv]
        rfl
      · rw [if_neg e]
        by_cases f : 60 * x3.toInt + x4.toInt + y.toInt ≤ (k : Int) ∧ (k : Int) < 60 * x3.toInt + x4.toInt + x5.toInt
        · rw [if_pos f, if_pos (show 60 * x3.toInt + x4.toInt + x6.toInt ≤ (k : Int) ∧ (k : Int) < 60 * x3.toInt + x4.toInt + x5.toInt by omega)]
        · rw [if_neg f, if_neg (show ¬ (60 * x3.toInt + x4.toInt + x6.toInt ≤ (k : Int) ∧ (k : Int) < 60 * x3.toInt + x4.toInt + x5.toInt) by omega)]
theorem sg_113 {x1 x2 x3 x4 x5 : Int32} {sf mn : List Int32} {it : List Int64} (h0 : it.length = 360) (b0 : 0 ≤ x1.toInt) (b1 : x1.toInt ≤ 5) (b2 : 0 ≤ x2.toInt) (b4 : x2.toInt + x5.toInt ≤ 60) (a0 : 0 ≤ x3.toInt) (a1 : x3.toInt ≤ 5) (a2 : 0 ≤ x4.toInt) (a3 : 0 ≤ x5.toInt) (a4 : x4.toInt + x5.toInt ≤ 60) : ∀ (n : Nat) (x6 : Int32) (car : List Int64), car.length = 60 → 0 ≤ x6.toInt → x6.toInt ≤ x5.toInt → (x5.toInt - x6.toInt).toNat < n → (∀ j : Nat, (j : Int) < x6.toInt → car.getD j 0 = it.getD ((j : Int) + 60 * x1.toInt + x2.toInt).toNat 0) → wp (fX9_shift_113 700 n x1 x2 x3 x4 x5 x6 sf mn it car) (cu3 (fun (r : Int32) (wi : List Int64) (wc : List Int64) => r = x5 ∧ wi.length = 360 ∧ ∀ k : Nat, k < 360 → wi.getD k 0 = if 60 * x3.toInt + x4.toInt ≤ (k : Int) ∧ (k : Int) < 60 * x3.toInt + x4.toInt + x5.toInt then it.getD ((k : Int) - 60 * x3.toInt - x4.toInt + 60 * x1.toInt + x2.toInt).toNat 0 else it.getD k 0)) := by
  have n60 : (60 : Int32).toInt = 60 := by decide
  have n1 : (1 : Int32).toInt = 1 := by decide
  have n0 : (0 : Int32).toInt = 0 := by decide
  intro n
  induction n with
  | zero =>
    intro x6 car hl h1 h2 hm
    exact absurd hm (by omega)
  | succ n ih =>
    intro x6 car hl h1 h2 hm hz
    refine wp_of (uf_X9_shift_113 _ _ _ _ _ _ _ _ _ _ _ _) ?_
    refine wp_if (fun c => ?_) (fun c => ?_)
    · have d := i_le c
      refine wp_cu3 (sg_150 hl a0 a1 a2 a3 a4 700 (0 : Int32) it h0 (by omega) (by omega) (by omega)) (fun r w w' hw => ?_)
      obtain ⟨q1, q2, q3⟩ := hw
      refine ⟨q1, q2, fun k hk => ?_⟩
      rw [q3 k hk, n0, Int.add_zero]
      by_cases f : 60 * x3.toInt + x4.toInt ≤ (k : Int) ∧ (k : Int) < 60 * x3.toInt + x4.toInt + x5.toInt
      · rw [if_pos f, if_pos f, hz _ (by omega)]
        have e : (((((k : Int) - 60 * x3.toInt - x4.toInt).toNat : Nat) : Int) + 60 * x1.toInt + x2.toInt) = (k : Int) - 60 * x3.toInt - x4.toInt + 60 * x1.toInt + x2.toInt := by omega
        rw [e]
      · rw [if_neg f, if_neg f]
    · have d := i_nle c
      generalize hy1 : ((60 : Int32) * x1) = z
      have ez := i_mulLE (c := 60) (by decide) hy1 (by omega) (by omega)
      generalize hz2 : (z + x2) = z2
      have ez2 := i_addE hz2 (by omega) (by omega)
      generalize hz3 : (z2 + x6) = z3
      have ez3 := i_addE hz3 (by omega) (by omega)
      refine wp_ck (i_inb (by omega) (by omega)) ?_
      refine wp_nm (fun v hv => ?_)
      refine wp_ck (i_inb (by omega) (by omega)) ?_
      refine wp_nm (fun l hq => ?_)
      refine wp_nm (fun y hy => ?_)
      have ey := i_addE hy.symm (by omega) (by omega)
      refine ih y l (by rw [hq, ls_len]; exact hl) (by omega) (by omega) (by omega) (fun j hj => ?_)
      rw [hq, gd_ls car x6 v j (by omega)]
      by_cases e : x6.toInt.toNat = j
      · have e6 : ((j : Int) + 60 * x1.toInt + x2.toInt).toNat = z3.toNatClampNeg := (show ((j : Int) + 60 * x1.toInt + x2.toInt).toNat = z3.toInt.toNat by omega)
        rw [if_pos e, e6, hv]
        rfl
      · rw [if_neg e]
        exact hz j (by omega)
