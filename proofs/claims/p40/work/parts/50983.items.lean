/-! items -/
def rl_it (v_shelves0_items : List Int64) (v_shelves1_items : List Int64) (v_shelves2_items : List Int64) (v_shelves3_items : List Int64) (v_shelves4_items : List Int64) (v_shelves5_items : List Int64) (m_items : List Int64) : Prop := it1 0 v_shelves0_items m_items ∧ it1 1 v_shelves1_items m_items ∧ it1 2 v_shelves2_items m_items ∧ it1 3 v_shelves3_items m_items ∧ it1 4 v_shelves4_items m_items ∧ it1 5 v_shelves5_items m_items
theorem gd_zl (n k : Nat) : (mm_zl n).getD k 0 = 0 := by
  unfold mm_zl
  rw [List.getD_eq_getElem?_getD, List.getElem?_replicate]
  by_cases h : k < n
  · rw [if_pos h]
    rfl
  · rw [if_neg h]
    rfl
theorem it_0 (i : Nat) : it1 i (mm_zl 60) (mm_zl 360) := fun k _ => by rw [gd_zl, gd_zl]
theorem nw_it : rl_it (mm_zl 60) (mm_zl 60) (mm_zl 60) (mm_zl 60) (mm_zl 60) (mm_zl 60) (mm_zl 360) := ⟨it_0 0, it_0 1, it_0 2, it_0 3, it_0 4, it_0 5⟩
theorem ck_c {α : Type} {c : Bool} {x : Option α} {z : α} (h : mm_ck c x = some z) : c = true := by
  unfold mm_ck at h
  by_cases hc : c = true
  · exact hc
  · rw [if_neg hc] at h
    cases h
theorem inb_c {i : Int32} {n : Nat} (h : mm_inb i n = true) : 0 ≤ i.toInt ∧ i.toInt < n := by
  have n0 : (0 : Int32).toInt = 0 := by decide
  unfold mm_inb at h
  rw [Bool.and_eq_true] at h
  have h1 := of_decide_eq_true h.1
  have h2 : i.toInt.toNat < n := of_decide_eq_true h.2
  rw [Int32.le_iff_toInt_le] at h1
  omega
theorem it_ls {i : Nat} {x2 z : Int32} {it m : List Int64} {b : Int64} (hz : z.toInt = 60 * (i : Int) + x2.toInt) (h0 : 0 ≤ x2.toInt) (h1 : x2.toInt < 60) (hit : it.length = 60) (hm : m.length = 360) (hi : i < 6) (c : it1 i it m) : it1 i (mm_ls it x2 b) (mm_ls m z b) := by
  intro k hk
  rw [gd_ls it x2 b k (by omega), gd_ls m z b (60 * i + k) (by omega)]
  by_cases e : x2.toInt.toNat = k
  · rw [if_pos e, if_pos (by omega)]
  · rw [if_neg e, if_neg (by omega)]
    exact c k hk
theorem it_ln {i l : Nat} {x2 z : Int32} {ll m : List Int64} {b : Int64} (hz : z.toInt = 60 * (i : Int) + x2.toInt) (h0 : 0 ≤ x2.toInt) (h1 : x2.toInt < 60) (hm : m.length = 360) (hl : l < 6) (ne : ¬ l = i) (c : it1 l ll m) : it1 l ll (mm_ls m z b) := by
  intro k hk
  rw [gd_ls m z b (60 * l + k) (by omega), if_neg (by omega)]
  exact c k hk
theorem it_fz {i : Nat} {x1 : Int32} {w m m' : List Int64} (h1 : x1.toInt = (i : Int)) (hi : i < 6) (hw : ∀ k : Nat, k < 60 → w.getD k 0 = 0) (hm : ∀ k : Nat, k < 360 → m'.getD k 0 = if 60 * x1.toInt ≤ (k : Int) ∧ (k : Int) < 60 * x1.toInt + 60 then 0 else m.getD k 0) : it1 i w m' := by
  intro k hk
  rw [hm (60 * i + k) (by omega), if_pos (by omega), hw k hk]
theorem it_fn {i l : Nat} {x1 : Int32} {ll m m' : List Int64} (h1 : x1.toInt = (i : Int)) (hi : i < 6) (hl : l < 6) (ne : ¬ l = i) (hm : ∀ k : Nat, k < 360 → m'.getD k 0 = if 60 * x1.toInt ≤ (k : Int) ∧ (k : Int) < 60 * x1.toInt + 60 then 0 else m.getD k 0) (c : it1 l ll m) : it1 l ll m' := by
  intro k hk
  rw [hm (60 * l + k) (by omega), if_neg (by omega)]
  exact c k hk
theorem as_e {s : Int32} {x : Int64} (h0 : 0 ≤ s.toInt) (h1 : s.toInt ≤ 4) : fX9_asSort 700 (((50 : Int32) + s) - (50 : Int32)) x = fX6_lowestBits 700 x s := by
  have n5 : (5 : Int32).toInt = 5 := by decide
  rcases k6 h0 (by omega) with rfl | rfl | rfl | rfl | rfl | rfl
  · rw [show ((50 : Int32) + 0 - (50 : Int32)) = 0 by decide]
    rfl
  · rw [show ((50 : Int32) + 1 - (50 : Int32)) = 1 by decide]
    rfl
  · rw [show ((50 : Int32) + 2 - (50 : Int32)) = 2 by decide]
    rfl
  · rw [show ((50 : Int32) + 3 - (50 : Int32)) = 3 by decide]
    rfl
  · rw [show ((50 : Int32) + 4 - (50 : Int32)) = 4 by decide]
    rfl
  · exact absurd h1 (by omega)
