/-! pile -/
set_option maxHeartbeats 8000000 in
theorem rg_fa5 (a b c : Int32) (hc : ¬ (0 : Int32) = c) : fX5_fieldAt 700 a b c 2 4 z5_rowOf z5_colOf (mm_zs 32) = some (-1) := by
  have s8 : ∀ n, fX5_fieldAt_3 700 (n + 1) a b c 8 2 4 z5_rowOf z5_colOf (mm_zs 32) = some (-1) := fun n => rfl
  have s7 : ∀ n, fX5_fieldAt_3 700 (n + 2) a b c 7 2 4 z5_rowOf z5_colOf (mm_zs 32) = some (-1) := by
    intro n
    show (if (1 : Int32) = a then (if (3 : Int32) = b then (if (0 : Int32) = c then some 7 else fX5_fieldAt_3 700 (n + 1) a b c 8 2 4 z5_rowOf z5_colOf (mm_zs 32)) else fX5_fieldAt_3 700 (n + 1) a b c 8 2 4 z5_rowOf z5_colOf (mm_zs 32)) else fX5_fieldAt_3 700 (n + 1) a b c 8 2 4 z5_rowOf z5_colOf (mm_zs 32)) = _
    rw [if_neg hc, s8 n, ite_self, ite_self]
  have s6 : ∀ n, fX5_fieldAt_3 700 (n + 3) a b c 6 2 4 z5_rowOf z5_colOf (mm_zs 32) = some (-1) := by
    intro n
    show (if (1 : Int32) = a then (if (2 : Int32) = b then (if (0 : Int32) = c then some 6 else fX5_fieldAt_3 700 (n + 2) a b c 7 2 4 z5_rowOf z5_colOf (mm_zs 32)) else fX5_fieldAt_3 700 (n + 2) a b c 7 2 4 z5_rowOf z5_colOf (mm_zs 32)) else fX5_fieldAt_3 700 (n + 2) a b c 7 2 4 z5_rowOf z5_colOf (mm_zs 32)) = _
    rw [if_neg hc, s7 n, ite_self, ite_self]
  have s5 : ∀ n, fX5_fieldAt_3 700 (n + 4) a b c 5 2 4 z5_rowOf z5_colOf (mm_zs 32) = some (-1) := by
    intro n
    show (if (1 : Int32) = a then (if (1 : Int32) = b then (if (0 : Int32) = c then some 5 else fX5_fieldAt_3 700 (n + 3) a b c 6 2 4 z5_rowOf z5_colOf (mm_zs 32)) else fX5_fieldAt_3 700 (n + 3) a b c 6 2 4 z5_rowOf z5_colOf (mm_zs 32)) else fX5_fieldAt_3 700 (n + 3) a b c 6 2 4 z5_rowOf z5_colOf (mm_zs 32)) = _
    rw [if_neg hc, s6 n, ite_self, ite_self]
  have s4 : ∀ n, fX5_fieldAt_3 700 (n + 5) a b c 4 2 4 z5_rowOf z5_colOf (mm_zs 32) = some (-1) := by
    intro n
    show (if (1 : Int32) = a then (if (0 : Int32) = b then (if (0 : Int32) = c then some 4 else fX5_fieldAt_3 700 (n + 4) a b c 5 2 4 z5_rowOf z5_colOf (mm_zs 32)) else fX5_fieldAt_3 700 (n + 4) a b c 5 2 4 z5_rowOf z5_colOf (mm_zs 32)) else fX5_fieldAt_3 700 (n + 4) a b c 5 2 4 z5_rowOf z5_colOf (mm_zs 32)) = _
    rw [if_neg hc, s5 n, ite_self, ite_self]
  have s3 : ∀ n, fX5_fieldAt_3 700 (n + 6) a b c 3 2 4 z5_rowOf z5_colOf (mm_zs 32) = some (-1) := by
    intro n
    show (if (0 : Int32) = a then (if (3 : Int32) = b then (if (0 : Int32) = c then some 3 else fX5_fieldAt_3 700 (n + 5) a b c 4 2 4 z5_rowOf z5_colOf (mm_zs 32)) else fX5_fieldAt_3 700 (n + 5) a b c 4 2 4 z5_rowOf z5_colOf (mm_zs 32)) else fX5_fieldAt_3 700 (n + 5) a b c 4 2 4 z5_rowOf z5_colOf (mm_zs 32)) = _
    rw [if_neg hc, s4 n, ite_self, ite_self]
  have s2 : ∀ n, fX5_fieldAt_3 700 (n + 7) a b c 2 2 4 z5_rowOf z5_colOf (mm_zs 32) = some (-1) := by
    intro n
    show (if (0 : Int32) = a then (if (2 : Int32) = b then (if (0 : Int32) = c then some 2 else fX5_fieldAt_3 700 (n + 6) a b c 3 2 4 z5_rowOf z5_colOf (mm_zs 32)) else fX5_fieldAt_3 700 (n + 6) a b c 3 2 4 z5_rowOf z5_colOf (mm_zs 32)) else fX5_fieldAt_3 700 (n + 6) a b c 3 2 4 z5_rowOf z5_colOf (mm_zs 32)) = _
    rw [if_neg hc, s3 n, ite_self, ite_self]
  have s1 : ∀ n, fX5_fieldAt_3 700 (n + 8) a b c 1 2 4 z5_rowOf z5_colOf (mm_zs 32) = some (-1) := by
    intro n
    show (if (0 : Int32) = a then (if (1 : Int32) = b then (if (0 : Int32) = c then some 1 else fX5_fieldAt_3 700 (n + 7) a b c 2 2 4 z5_rowOf z5_colOf (mm_zs 32)) else fX5_fieldAt_3 700 (n + 7) a b c 2 2 4 z5_rowOf z5_colOf (mm_zs 32)) else fX5_fieldAt_3 700 (n + 7) a b c 2 2 4 z5_rowOf z5_colOf (mm_zs 32)) = _
    rw [if_neg hc, s2 n, ite_self, ite_self]
  have s0 : ∀ n, fX5_fieldAt_3 700 (n + 9) a b c 0 2 4 z5_rowOf z5_colOf (mm_zs 32) = some (-1) := by
    intro n
    show (if (0 : Int32) = a then (if (0 : Int32) = b then (if (0 : Int32) = c then some 0 else fX5_fieldAt_3 700 (n + 8) a b c 1 2 4 z5_rowOf z5_colOf (mm_zs 32)) else fX5_fieldAt_3 700 (n + 8) a b c 1 2 4 z5_rowOf z5_colOf (mm_zs 32)) else fX5_fieldAt_3 700 (n + 8) a b c 1 2 4 z5_rowOf z5_colOf (mm_zs 32)) = _
    rw [if_neg hc, s1 n, ite_self, ite_self]
  exact s0 691
set_option maxHeartbeats 8000000 in
set_option maxRecDepth 100000 in
theorem kk_9 (y1 : Int32) (y2 : Int32) : mm_sameN (fX8_pile 700 y1 y2 2 4 2 4 z5_rowOf z5_colOf (mm_zs 32)) (fX9_pile 700 y1 y2 2 4 z9_shapeRows z9_shapeColumns z9_row z9_column (mm_zs 192)) = true := by
  have l1 := Int32.toInt_lt y1
  have d := rg_d10 y1
  have kd := Int.mul_tdiv_add_tmod y1.toInt 10
  have b1 : y1.toInt.tmod 10 < 10 := Int.tmod_lt_of_pos _ (by decide)
  by_cases h : 0 ≤ y1.toInt ∧ y1.toInt < 20
  · have w := rg_all (fun y => mm_sameN (fX8_pile 700 y (-2) 2 4 2 4 z5_rowOf z5_colOf (mm_zs 32)) (fX9_pile 700 y (-2) 2 4 z9_shapeRows z9_shapeColumns z9_row z9_column (mm_zs 192)) && mm_sameN (fX8_pile 700 y (-1) 2 4 2 4 z5_rowOf z5_colOf (mm_zs 32)) (fX9_pile 700 y (-1) 2 4 z9_shapeRows z9_shapeColumns z9_row z9_column (mm_zs 192)) && mm_sameN (fX8_pile 700 y 0 2 4 2 4 z5_rowOf z5_colOf (mm_zs 32)) (fX9_pile 700 y 0 2 4 z9_shapeRows z9_shapeColumns z9_row z9_column (mm_zs 192))) 20 (by decide +kernel) y1 h.1 h.2
    have w1 := (Bool.and_eq_true _ _ ▸ w : _ ∧ _)
    have w2 := (Bool.and_eq_true _ _ ▸ w1.1 : _ ∧ _)
    by_cases g2 : y2 = -2
    · subst g2; exact w2.1
    by_cases g1 : y2 = -1
    · subst g1; exact w2.2
    by_cases g0 : y2 = 0
    · subst g0; exact w1.2
    have n2 : ¬ y2.toInt = -2 := fun k => g2 (rg_eq (c := -2) k)
    have n1 : ¬ y2.toInt = -1 := fun k => g1 (rg_eq (c := -1) k)
    have n0 : ¬ y2.toInt = 0 := fun k => g0 (rg_eq (c := 0) k)
    have q := rg_all (fun y => (match fX5_hasPile 700 y 2 4 with
      | some true => decide (fX9_isPile 700 0 y z9_shapeRows z9_shapeColumns = some true) && decide (fX5_heightAt 700 (y / 10) (mm_rem y 10) 2 4 z5_rowOf z5_colOf = some 1) && decide (fX9_sizeAt 700 0 (y / 10) (mm_rem y 10) 2 4 z9_row z9_column = some 1)
      | some false => decide (fX9_isPile 700 0 y z9_shapeRows z9_shapeColumns = some false)
      | none => false)) 20 (by decide +kernel) y1 h.1 h.2
    unfold fX8_pile fX9_pile
    cases e : fX5_hasPile 700 y1 2 4 with
    | none => simp only [e] at q; cases q
    | some b =>
      cases b with
      | false =>
        simp only [e] at q
        rw [of_decide_eq_true q]
        rfl
      | true =>
        simp only [e] at q
        have q1 := (Bool.and_eq_true _ _ ▸ q : _ ∧ _)
        have q2 := (Bool.and_eq_true _ _ ▸ q1.1 : _ ∧ _)
        rw [of_decide_eq_true q2.1, of_decide_eq_true q2.2, of_decide_eq_true q1.2]
        show mm_sameN (if (-2) ≤ y2 then (if y2 = (-2) then some 1 else if y2 = (-1) then _ else fX8_pile_67 700 y2 (mm_rem y1 10) (y1 / 10) 2 4 2 4 z5_rowOf z5_colOf (mm_zs 32)) else some (-1)) (if y2 = (-2) then some 1 else if y2 = (-1) then _ else fX9_pile_45 700 y1 1 y2 2 4 z9_shapeRows z9_shapeColumns z9_row z9_column (mm_zs 192)) = true
        rw [if_neg g2, if_neg g1, if_neg g2, if_neg g1]
        unfold fX8_pile_67 fX9_pile_45
        rw [rg_fa5 _ _ y2 (fun k => g0 k.symm), rg_wf 700 y2 (a := 0) (b := 0) (by decide) (by decide) (by omega)]
        by_cases c : (-2) ≤ y2
        · rw [if_pos c]; rfl
        · rw [if_neg c]; rfl
  · unfold fX8_pile fX9_pile fX5_hasPile fX9_isPile
    by_cases k : y1.toInt < 0
    · rw [if_pos (rg_p (x := y1) (b := 0) (by decide) k), if_pos (rg_p (x := y1) (b := 0) (by decide) k)]
      rfl
    · rw [if_neg (rg_n (x := y1) (b := 0) (by decide) (by omega)), if_neg (rg_n (x := y1) (b := 0) (by decide) (by omega))]
      have c : (2 : Int32) ≤ y1 / 10 := rg_mp (b := 2) (by decide) (by omega)
      have c' : mm_ig z9_shapeRows 0 ≤ y1 / 10 := c
      rw [if_pos c, if_pos c']
      rfl
set_option maxHeartbeats 8000000 in
set_option maxRecDepth 100000 in
theorem pp_9 (y1 : Int32) (y2 : Int32) : ∃ (r : Int32) , fX8_pile 700 y1 y2 2 4 2 4 z5_rowOf z5_colOf (mm_zs 32) = some r ∧ fX9_pile 700 y1 y2 2 4 z9_shapeRows z9_shapeColumns z9_row z9_column (mm_zs 192) = some r := by
  obtain ⟨r, h8, h9⟩ := mm_sameNs (kk_9 y1 y2)
  exact ⟨r, h8, h9⟩
