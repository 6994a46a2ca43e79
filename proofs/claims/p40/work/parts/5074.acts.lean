/-! the acts, any kind -/
theorem k8 {z : Int32} (h0 : 0 ≤ z.toInt) (h1 : z.toInt < 8) : z = 0 ∨ z = 1 ∨ z = 2 ∨ z = 3 ∨ z = 4 ∨ z = 5 ∨ z = 6 ∨ z = 7 := by
  have f : ∀ c : Int32, z.toInt = c.toInt → z = c := fun c e => Int32.toInt_inj.mp e
  have e : z.toInt = 0 ∨ z.toInt = 1 ∨ z.toInt = 2 ∨ z.toInt = 3 ∨ z.toInt = 4 ∨ z.toInt = 5 ∨ z.toInt = 6 ∨ z.toInt = 7 := by omega
  rcases e with e | e | e | e | e | e | e | e
  · exact Or.inl (f 0 (by rw [e]; decide))
  · exact Or.inr (Or.inl (f 1 (by rw [e]; decide)))
  · exact Or.inr (Or.inr (Or.inl (f 2 (by rw [e]; decide))))
  · exact Or.inr (Or.inr (Or.inr (Or.inl (f 3 (by rw [e]; decide)))))
  · exact Or.inr (Or.inr (Or.inr (Or.inr (Or.inl (f 4 (by rw [e]; decide))))))
  · exact Or.inr (Or.inr (Or.inr (Or.inr (Or.inr (Or.inl (f 5 (by rw [e]; decide)))))))
  · exact Or.inr (Or.inr (Or.inr (Or.inr (Or.inr (Or.inr (Or.inl (f 6 (by rw [e]; decide))))))))
  · exact Or.inr (Or.inr (Or.inr (Or.inr (Or.inr (Or.inr (Or.inr (f 7 (by rw [e]; decide))))))))
theorem k4 {z : Int32} (h0 : 0 ≤ z.toInt) (h1 : z.toInt < 4) : z = 0 ∨ z = 1 ∨ z = 2 ∨ z = 3 := by
  have n0 : (4 : Int32).toInt = 4 := by decide
  have n1 : (5 : Int32).toInt = 5 := by decide
  have n2 : (6 : Int32).toInt = 6 := by decide
  have n3 : (7 : Int32).toInt = 7 := by decide
  rcases k8 h0 (by omega) with e | e | e | e | e | e | e | e
  · exact Or.inl e
  · exact Or.inr (Or.inl e)
  · exact Or.inr (Or.inr (Or.inl e))
  · exact Or.inr (Or.inr (Or.inr e))
  all_goals (exfalso; rw [e] at h1; omega)
theorem ac_0 {k : Int32} (h0 : 0 ≤ k.toInt) (h1 : k.toInt < 8) (x b : Int32) (tr : List Int32) (hl : tr.length = 24) : ∃ r c t, fX1_call 700 (fX1_run 700 42) k k (0 : Int32) x (0 : Int32) (0 : Int32) b tr = some (r, c, t) ∧ fX9_foldsAs 700 4 k x (0 : Int32) b tr = some (r, c, t) ∧ t.length = 24 := by
  rcases k8 h0 h1 with e | e | e | e | e | e | e | e
  · subst e; exact ac_0_0 x b tr hl
  · subst e; exact ac_1_0 x b tr hl
  · subst e; exact ac_2_0 x b tr hl
  · subst e; exact ac_3_0 x b tr hl
  · subst e; exact ac_4_0 x b tr hl
  · subst e; exact ac_5_0 x b tr hl
  · subst e; exact ac_6_0 x b tr hl
  · subst e; exact ac_7_0 x b tr hl
theorem ac_1 {k : Int32} (h0 : 0 ≤ k.toInt) (h1 : k.toInt < 8) (x b : Int32) (tr : List Int32) (hl : tr.length = 24) : ∃ r c t, fX1_call 700 (fX1_run 700 42) k k (1 : Int32) x (0 : Int32) (0 : Int32) b tr = some (r, c, t) ∧ fX9_laysAs 700 5 k x (0 : Int32) k b tr = some (r, c, t) ∧ t.length = 24 := by
  rcases k8 h0 h1 with e | e | e | e | e | e | e | e
  · subst e; exact ac_0_1 x b tr hl
  · subst e; exact ac_1_1 x b tr hl
  · subst e; exact ac_2_1 x b tr hl
  · subst e; exact ac_3_1 x b tr hl
  · subst e; exact ac_4_1 x b tr hl
  · subst e; exact ac_5_1 x b tr hl
  · subst e; exact ac_6_1 x b tr hl
  · subst e; exact ac_7_1 x b tr hl
theorem ac_2 {k : Int32} (h0 : 0 ≤ k.toInt) (h1 : k.toInt < 8) (x b : Int32) (tr : List Int32) (hl : tr.length = 24) : ∃ r c t, fX1_call 700 (fX1_run 700 42) k k (2 : Int32) x (0 : Int32) (0 : Int32) b tr = some (r, c, t) ∧ fX9_wearsAs 700 4 k x (0 : Int32) k b tr = some (r, c, t) ∧ t.length = 24 := by
  rcases k8 h0 h1 with e | e | e | e | e | e | e | e
  · subst e; exact ac_0_2 x b tr hl
  · subst e; exact ac_1_2 x b tr hl
  · subst e; exact ac_2_2 x b tr hl
  · subst e; exact ac_3_2 x b tr hl
  · subst e; exact ac_4_2 x b tr hl
  · subst e; exact ac_5_2 x b tr hl
  · subst e; exact ac_6_2 x b tr hl
  · subst e; exact ac_7_2 x b tr hl
theorem ac_3 {k : Int32} (h0 : 0 ≤ k.toInt) (h1 : k.toInt < 8) (x b : Int32) (tr : List Int32) (hl : tr.length = 24) : ∃ r c t, fX1_call 700 (fX1_run 700 42) k k (3 : Int32) x (0 : Int32) (0 : Int32) b tr = some (r, c, t) ∧ fX9_tellsAs 700 4 k x (0 : Int32) k b tr = some (r, c, t) ∧ t.length = 24 := by
  rcases k8 h0 h1 with e | e | e | e | e | e | e | e
  · subst e; exact ac_0_3 x b tr hl
  · subst e; exact ac_1_3 x b tr hl
  · subst e; exact ac_2_3 x b tr hl
  · subst e; exact ac_3_3 x b tr hl
  · subst e; exact ac_4_3 x b tr hl
  · subst e; exact ac_5_3 x b tr hl
  · subst e; exact ac_6_3 x b tr hl
  · subst e; exact ac_7_3 x b tr hl
theorem bk_f (N : Nat) (v_rowsOf : Int32) (v_columnsOf : Int32) (v_folded : Int32) (v_wronged : Int32) (v_imageRows : Int32) (v_imageColumns : Int32) (v_imageFolded : Int32) (v_imageWronged : Int32) (v_shapeRows : List Int32) (v_shapeColumns : List Int32) (v_row : List Int32) (v_column : List Int32) (v_below : List Int32) (v_face : List Int32) (v_worn : List Int32) (v_lastBend : List Int32) : fX9_back N v_rowsOf v_columnsOf v_folded v_wronged false v_imageRows v_imageColumns v_imageFolded v_imageWronged v_shapeRows v_shapeColumns v_row v_column v_below v_face v_worn v_lastBend = (some ((-5 : Int32), v_rowsOf, v_columnsOf, v_folded, v_wronged, v_shapeRows, v_shapeColumns, v_row, v_column, v_below, v_face, v_worn, v_lastBend)) := rfl
