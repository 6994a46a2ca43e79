/-! wished, right -/
set_option maxHeartbeats 8000000 in
set_option maxRecDepth 100000 in
theorem ft_0 : fT9 0 a9_192 = (true, 0, 10, 3, [14, 21, 12]) := by decide +kernel
set_option maxHeartbeats 8000000 in
set_option maxRecDepth 100000 in
theorem ft_1 : fT9 1 a9_192 = (true, 0, 10, 3, [14, 21, 10]) := by decide +kernel
set_option maxHeartbeats 8000000 in
set_option maxRecDepth 100000 in
theorem ft_2 : fT9 2 a9_192 = (true, 0, 10, 3, [14, 21, 13]) := by decide +kernel
set_option maxHeartbeats 8000000 in
set_option maxRecDepth 100000 in
theorem ft_3 : fT9 3 a9_192 = (true, 0, 10, 3, [14, 21, 11]) := by decide +kernel
set_option maxHeartbeats 8000000 in
set_option maxRecDepth 100000 in
theorem ft_4 : fT9 4 a9_192 = (true, 0, 10, 3, [14, 20, 11]) := by decide +kernel
set_option maxHeartbeats 8000000 in
set_option maxRecDepth 100000 in
theorem ft_5 : fT9 5 a9_192 = (true, 0, 10, 3, [14, 20, 13]) := by decide +kernel
set_option maxHeartbeats 8000000 in
set_option maxRecDepth 100000 in
theorem ft_6 : fT9 6 a9_192 = (true, 0, 10, 3, [14, 20, 10]) := by decide +kernel
set_option maxHeartbeats 8000000 in
set_option maxRecDepth 100000 in
theorem ft_7 : fT9 7 a9_192 = (true, 0, 10, 3, [14, 20, 12]) := by decide +kernel
set_option maxHeartbeats 8000000 in
set_option maxRecDepth 100000 in
theorem ft_r : fT9 (-1) a9_192 = (true, 0, 10, 3, [14, 20, 10]) := by decide +kernel
theorem rg_eight (x : Int32) (h0 : 0 ≤ x.toInt) (h1 : x.toInt < 8) : x = 0 ∨ x = 1 ∨ x = 2 ∨ x = 3 ∨ x = 4 ∨ x = 5 ∨ x = 6 ∨ x = 7 := by
  have k : x.toInt = 0 ∨ x.toInt = 1 ∨ x.toInt = 2 ∨ x.toInt = 3 ∨ x.toInt = 4 ∨ x.toInt = 5 ∨ x.toInt = 6 ∨ x.toInt = 7 := by omega
  rcases k with k | k | k | k | k | k | k | k
  · exact .inl (rg_eq (c := 0) (k.trans (by decide)))
  · exact .inr (.inl (rg_eq (c := 1) (k.trans (by decide))))
  · exact .inr (.inr (.inl (rg_eq (c := 2) (k.trans (by decide)))))
  · exact .inr (.inr (.inr (.inl (rg_eq (c := 3) (k.trans (by decide))))))
  · exact .inr (.inr (.inr (.inr (.inl (rg_eq (c := 4) (k.trans (by decide)))))))
  · exact .inr (.inr (.inr (.inr (.inr (.inl (rg_eq (c := 5) (k.trans (by decide))))))))
  · exact .inr (.inr (.inr (.inr (.inr (.inr (.inl (rg_eq (c := 6) (k.trans (by decide)))))))))
  · exact .inr (.inr (.inr (.inr (.inr (.inr (.inr (rg_eq (c := 7) (k.trans (by decide)))))))))
theorem rg_m4 (x : Int32) (h0 : -1 ≤ x.toInt) (h1 : x.toInt < 3) : x = -1 ∨ x = 0 ∨ x = 1 ∨ x = 2 := by
  have k : x.toInt = -1 ∨ x.toInt = 0 ∨ x.toInt = 1 ∨ x.toInt = 2 := by omega
  rcases k with k | k | k | k
  · exact .inl (rg_eq (c := -1) (k.trans (by decide)))
  · exact .inr (.inl (rg_eq (c := 0) (k.trans (by decide))))
  · exact .inr (.inr (.inl (rg_eq (c := 1) (k.trans (by decide)))))
  · exact .inr (.inr (.inr (rg_eq (c := 2) (k.trans (by decide)))))
theorem rg_m6 (x : Int32) (h0 : -3 ≤ x.toInt) (h1 : x.toInt < 3) : x = -3 ∨ x = -2 ∨ x = -1 ∨ x = 0 ∨ x = 1 ∨ x = 2 := by
  have k : x.toInt = -3 ∨ x.toInt = -2 ∨ x.toInt = -1 ∨ x.toInt = 0 ∨ x.toInt = 1 ∨ x.toInt = 2 := by omega
  rcases k with k | k | k | k | k | k
  · exact .inl (rg_eq (c := -3) (k.trans (by decide)))
  · exact .inr (.inl (rg_eq (c := -2) (k.trans (by decide))))
  · exact .inr (.inr (.inl (rg_eq (c := -1) (k.trans (by decide)))))
  · exact .inr (.inr (.inr (.inl (rg_eq (c := 0) (k.trans (by decide))))))
  · exact .inr (.inr (.inr (.inr (.inl (rg_eq (c := 1) (k.trans (by decide)))))))
  · exact .inr (.inr (.inr (.inr (.inr (rg_eq (c := 2) (k.trans (by decide)))))))
set_option maxHeartbeats 8000000 in
set_option maxRecDepth 100000 in
theorem kw_0 (y2 : Int32) : mm_same (fX8_wished 700 0 y2 2 4 2 4 0 0 0 z5_rowOf z5_colOf (mm_zs 32) (mm_zs 32) (mm_zs 64) (mm_zs 64) false 0 0 0 0 2 4 2 4 0 0 0 z5_rowOf z5_colOf (mm_zs 32) (mm_zs 32) (mm_zs 64) (mm_zs 64) 2 4 2 4 0 0 0 z5_rowOf z5_colOf (mm_zs 32) (mm_zs 32) (mm_zs 64) (mm_zs 64) (mm_zs 32) 2 4 2 4 0 0 0 z5_rowOf z5_colOf (mm_zs 32) (mm_zs 32) (mm_zs 64) (mm_zs 64) (mm_zs 32) 2 4 2 4 0 0 0 z5_rowOf z5_colOf (mm_zs 32) (mm_zs 32) (mm_zs 64) (mm_zs 64) (mm_zs 32) (mm_zs 3) (mm_zs 3)) (fX9_wished 700 0 y2 2 4 (-1) 0 0 0 0 0 0 0 0 0 false 0 0 0 z9_limit z9_shapeRows z9_shapeColumns z9_row z9_column (mm_zs 192) (mm_zs 192) (mm_zs 384) (mm_zs 384) (mm_zs 120) (mm_zs 120) (mm_zs 6) (mm_zs 64) (mm_zs 32) (mm_zs 32) (mm_zs 64) (mm_zs 3) (mm_zs 3)) = true := by
  obtain ⟨c4, c5, c6, c7, c8, c9, c10, c11, c12, c13, c14, c15, c16, c17, c18, c19, c20, c21, c22, c23, c24, c25, c26, c27, c28, c29, c30, c31, c32, c33, c34, c35, c36, c37, c38, c39, c40, c41, c42, c43, c44, c45, c46, c47, c48, c49, c50, c51, c52, c53, c54, c55, c56, c57, c58, c59, c60, e8⟩ := cs_17s cs_t0
  have e9 := e9_srch 0
  rw [ft_0] at e9
  unfold fX8_wished fX9_wished
  rw [e8, e9]
  by_cases c1 : y2.toInt < -1
  · rw [if_pos (rg_p (x := y2) (b := -1) (by decide) c1), if_neg (rg_mn (x := y2) (b := -1) (by decide) c1)]
    rfl
  by_cases c2 : 3 ≤ y2.toInt
  · rw [if_neg (rg_n (x := y2) (b := -1) (by decide) (by omega)), if_neg (rg_n (x := y2) (b := 3) (by decide) c2), if_pos (rg_mp (x := y2) (b := -1) (by decide) (by omega))]
    dsimp only [mm_bd28]
    rw [if_neg (rg_qn (x := y2) (b := -1) (by decide) (by omega)), if_pos (rg_mp (x := y2) (b := 3) (by decide) c2)]
    rfl
  rcases rg_m4 y2 (by omega) (by omega) with e | e | e | e <;> subst e <;> rfl
set_option maxHeartbeats 8000000 in
set_option maxRecDepth 100000 in
theorem kw_1 (y2 : Int32) : mm_same (fX8_wished 700 1 y2 2 4 2 4 0 0 0 z5_rowOf z5_colOf (mm_zs 32) (mm_zs 32) (mm_zs 64) (mm_zs 64) false 0 0 0 0 2 4 2 4 0 0 0 z5_rowOf z5_colOf (mm_zs 32) (mm_zs 32) (mm_zs 64) (mm_zs 64) 2 4 2 4 0 0 0 z5_rowOf z5_colOf (mm_zs 32) (mm_zs 32) (mm_zs 64) (mm_zs 64) (mm_zs 32) 2 4 2 4 0 0 0 z5_rowOf z5_colOf (mm_zs 32) (mm_zs 32) (mm_zs 64) (mm_zs 64) (mm_zs 32) 2 4 2 4 0 0 0 z5_rowOf z5_colOf (mm_zs 32) (mm_zs 32) (mm_zs 64) (mm_zs 64) (mm_zs 32) (mm_zs 3) (mm_zs 3)) (fX9_wished 700 1 y2 2 4 (-1) 0 0 0 0 0 0 0 0 0 false 0 0 0 z9_limit z9_shapeRows z9_shapeColumns z9_row z9_column (mm_zs 192) (mm_zs 192) (mm_zs 384) (mm_zs 384) (mm_zs 120) (mm_zs 120) (mm_zs 6) (mm_zs 64) (mm_zs 32) (mm_zs 32) (mm_zs 64) (mm_zs 3) (mm_zs 3)) = true := by
  obtain ⟨c4, c5, c6, c7, c8, c9, c10, c11, c12, c13, c14, c15, c16, c17, c18, c19, c20, c21, c22, c23, c24, c25, c26, c27, c28, c29, c30, c31, c32, c33, c34, c35, c36, c37, c38, c39, c40, c41, c42, c43, c44, c45, c46, c47, c48, c49, c50, c51, c52, c53, c54, c55, c56, c57, c58, c59, c60, e8⟩ := cs_17s cs_t1
  have e9 := e9_srch 1
  rw [ft_1] at e9
  unfold fX8_wished fX9_wished
  rw [e8, e9]
  by_cases c1 : y2.toInt < -1
  · rw [if_pos (rg_p (x := y2) (b := -1) (by decide) c1), if_neg (rg_mn (x := y2) (b := -1) (by decide) c1)]
    rfl
  by_cases c2 : 3 ≤ y2.toInt
  · rw [if_neg (rg_n (x := y2) (b := -1) (by decide) (by omega)), if_neg (rg_n (x := y2) (b := 3) (by decide) c2), if_pos (rg_mp (x := y2) (b := -1) (by decide) (by omega))]
    dsimp only [mm_bd28]
    rw [if_neg (rg_qn (x := y2) (b := -1) (by decide) (by omega)), if_pos (rg_mp (x := y2) (b := 3) (by decide) c2)]
    rfl
  rcases rg_m4 y2 (by omega) (by omega) with e | e | e | e <;> subst e <;> rfl
set_option maxHeartbeats 8000000 in
set_option maxRecDepth 100000 in
theorem kw_2 (y2 : Int32) : mm_same (fX8_wished 700 2 y2 2 4 2 4 0 0 0 z5_rowOf z5_colOf (mm_zs 32) (mm_zs 32) (mm_zs 64) (mm_zs 64) false 0 0 0 0 2 4 2 4 0 0 0 z5_rowOf z5_colOf (mm_zs 32) (mm_zs 32) (mm_zs 64) (mm_zs 64) 2 4 2 4 0 0 0 z5_rowOf z5_colOf (mm_zs 32) (mm_zs 32) (mm_zs 64) (mm_zs 64) (mm_zs 32) 2 4 2 4 0 0 0 z5_rowOf z5_colOf (mm_zs 32) (mm_zs 32) (mm_zs 64) (mm_zs 64) (mm_zs 32) 2 4 2 4 0 0 0 z5_rowOf z5_colOf (mm_zs 32) (mm_zs 32) (mm_zs 64) (mm_zs 64) (mm_zs 32) (mm_zs 3) (mm_zs 3)) (fX9_wished 700 2 y2 2 4 (-1) 0 0 0 0 0 0 0 0 0 false 0 0 0 z9_limit z9_shapeRows z9_shapeColumns z9_row z9_column (mm_zs 192) (mm_zs 192) (mm_zs 384) (mm_zs 384) (mm_zs 120) (mm_zs 120) (mm_zs 6) (mm_zs 64) (mm_zs 32) (mm_zs 32) (mm_zs 64) (mm_zs 3) (mm_zs 3)) = true := by
  obtain ⟨c4, c5, c6, c7, c8, c9, c10, c11, c12, c13, c14, c15, c16, c17, c18, c19, c20, c21, c22, c23, c24, c25, c26, c27, c28, c29, c30, c31, c32, c33, c34, c35, c36, c37, c38, c39, c40, c41, c42, c43, c44, c45, c46, c47, c48, c49, c50, c51, c52, c53, c54, c55, c56, c57, c58, c59, c60, e8⟩ := cs_17s cs_t2
  have e9 := e9_srch 2
  rw [ft_2] at e9
  unfold fX8_wished fX9_wished
  rw [e8, e9]
  by_cases c1 : y2.toInt < -1
  · rw [if_pos (rg_p (x := y2) (b := -1) (by decide) c1), if_neg (rg_mn (x := y2) (b := -1) (by decide) c1)]
    rfl
  by_cases c2 : 3 ≤ y2.toInt
  · rw [if_neg (rg_n (x := y2) (b := -1) (by decide) (by omega)), if_neg (rg_n (x := y2) (b := 3) (by decide) c2), if_pos (rg_mp (x := y2) (b := -1) (by decide) (by omega))]
    dsimp only [mm_bd28]
    rw [if_neg (rg_qn (x := y2) (b := -1) (by decide) (by omega)), if_pos (rg_mp (x := y2) (b := 3) (by decide) c2)]
    rfl
  rcases rg_m4 y2 (by omega) (by omega) with e | e | e | e <;> subst e <;> rfl
set_option maxHeartbeats 8000000 in
set_option maxRecDepth 100000 in
theorem kw_3 (y2 : Int32) : mm_same (fX8_wished 700 3 y2 2 4 2 4 0 0 0 z5_rowOf z5_colOf (mm_zs 32) (mm_zs 32) (mm_zs 64) (mm_zs 64) false 0 0 0 0 2 4 2 4 0 0 0 z5_rowOf z5_colOf (mm_zs 32) (mm_zs 32) (mm_zs 64) (mm_zs 64) 2 4 2 4 0 0 0 z5_rowOf z5_colOf (mm_zs 32) (mm_zs 32) (mm_zs 64) (mm_zs 64) (mm_zs 32) 2 4 2 4 0 0 0 z5_rowOf z5_colOf (mm_zs 32) (mm_zs 32) (mm_zs 64) (mm_zs 64) (mm_zs 32) 2 4 2 4 0 0 0 z5_rowOf z5_colOf (mm_zs 32) (mm_zs 32) (mm_zs 64) (mm_zs 64) (mm_zs 32) (mm_zs 3) (mm_zs 3)) (fX9_wished 700 3 y2 2 4 (-1) 0 0 0 0 0 0 0 0 0 false 0 0 0 z9_limit z9_shapeRows z9_shapeColumns z9_row z9_column (mm_zs 192) (mm_zs 192) (mm_zs 384) (mm_zs 384) (mm_zs 120) (mm_zs 120) (mm_zs 6) (mm_zs 64) (mm_zs 32) (mm_zs 32) (mm_zs 64) (mm_zs 3) (mm_zs 3)) = true := by
  obtain ⟨c4, c5, c6, c7, c8, c9, c10, c11, c12, c13, c14, c15, c16, c17, c18, c19, c20, c21, c22, c23, c24, c25, c26, c27, c28, c29, c30, c31, c32, c33, c34, c35, c36, c37, c38, c39, c40, c41, c42, c43, c44, c45, c46, c47, c48, c49, c50, c51, c52, c53, c54, c55, c56, c57, c58, c59, c60, e8⟩ := cs_17s cs_t3
  have e9 := e9_srch 3
  rw [ft_3] at e9
  unfold fX8_wished fX9_wished
  rw [e8, e9]
  by_cases c1 : y2.toInt < -1
  · rw [if_pos (rg_p (x := y2) (b := -1) (by decide) c1), if_neg (rg_mn (x := y2) (b := -1) (by decide) c1)]
    rfl
  by_cases c2 : 3 ≤ y2.toInt
  · rw [if_neg (rg_n (x := y2) (b := -1) (by decide) (by omega)), if_neg (rg_n (x := y2) (b := 3) (by decide) c2), if_pos (rg_mp (x := y2) (b := -1) (by decide) (by omega))]
    dsimp only [mm_bd28]
    rw [if_neg (rg_qn (x := y2) (b := -1) (by decide) (by omega)), if_pos (rg_mp (x := y2) (b := 3) (by decide) c2)]
    rfl
  rcases rg_m4 y2 (by omega) (by omega) with e | e | e | e <;> subst e <;> rfl
set_option maxHeartbeats 8000000 in
set_option maxRecDepth 100000 in
theorem kw_4 (y2 : Int32) : mm_same (fX8_wished 700 4 y2 2 4 2 4 0 0 0 z5_rowOf z5_colOf (mm_zs 32) (mm_zs 32) (mm_zs 64) (mm_zs 64) false 0 0 0 0 2 4 2 4 0 0 0 z5_rowOf z5_colOf (mm_zs 32) (mm_zs 32) (mm_zs 64) (mm_zs 64) 2 4 2 4 0 0 0 z5_rowOf z5_colOf (mm_zs 32) (mm_zs 32) (mm_zs 64) (mm_zs 64) (mm_zs 32) 2 4 2 4 0 0 0 z5_rowOf z5_colOf (mm_zs 32) (mm_zs 32) (mm_zs 64) (mm_zs 64) (mm_zs 32) 2 4 2 4 0 0 0 z5_rowOf z5_colOf (mm_zs 32) (mm_zs 32) (mm_zs 64) (mm_zs 64) (mm_zs 32) (mm_zs 3) (mm_zs 3)) (fX9_wished 700 4 y2 2 4 (-1) 0 0 0 0 0 0 0 0 0 false 0 0 0 z9_limit z9_shapeRows z9_shapeColumns z9_row z9_column (mm_zs 192) (mm_zs 192) (mm_zs 384) (mm_zs 384) (mm_zs 120) (mm_zs 120) (mm_zs 6) (mm_zs 64) (mm_zs 32) (mm_zs 32) (mm_zs 64) (mm_zs 3) (mm_zs 3)) = true := by
  obtain ⟨c4, c5, c6, c7, c8, c9, c10, c11, c12, c13, c14, c15, c16, c17, c18, c19, c20, c21, c22, c23, c24, c25, c26, c27, c28, c29, c30, c31, c32, c33, c34, c35, c36, c37, c38, c39, c40, c41, c42, c43, c44, c45, c46, c47, c48, c49, c50, c51, c52, c53, c54, c55, c56, c57, c58, c59, c60, e8⟩ := cs_17s cs_t4
  have e9 := e9_srch 4
  rw [ft_4] at e9
  unfold fX8_wished fX9_wished
  rw [e8, e9]
  by_cases c1 : y2.toInt < -1
  · rw [if_pos (rg_p (x := y2) (b := -1) (by decide) c1), if_neg (rg_mn (x := y2) (b := -1) (by decide) c1)]
    rfl
  by_cases c2 : 3 ≤ y2.toInt
  · rw [if_neg (rg_n (x := y2) (b := -1) (by decide) (by omega)), if_neg (rg_n (x := y2) (b := 3) (by decide) c2), if_pos (rg_mp (x := y2) (b := -1) (by decide) (by omega))]
    dsimp only [mm_bd28]
    rw [if_neg (rg_qn (x := y2) (b := -1) (by decide) (by omega)), if_pos (rg_mp (x := y2) (b := 3) (by decide) c2)]
    rfl
  rcases rg_m4 y2 (by omega) (by omega) with e | e | e | e <;> subst e <;> rfl
set_option maxHeartbeats 8000000 in
set_option maxRecDepth 100000 in
theorem kw_5 (y2 : Int32) : mm_same (fX8_wished 700 5 y2 2 4 2 4 0 0 0 z5_rowOf z5_colOf (mm_zs 32) (mm_zs 32) (mm_zs 64) (mm_zs 64) false 0 0 0 0 2 4 2 4 0 0 0 z5_rowOf z5_colOf (mm_zs 32) (mm_zs 32) (mm_zs 64) (mm_zs 64) 2 4 2 4 0 0 0 z5_rowOf z5_colOf (mm_zs 32) (mm_zs 32) (mm_zs 64) (mm_zs 64) (mm_zs 32) 2 4 2 4 0 0 0 z5_rowOf z5_colOf (mm_zs 32) (mm_zs 32) (mm_zs 64) (mm_zs 64) (mm_zs 32) 2 4 2 4 0 0 0 z5_rowOf z5_colOf (mm_zs 32) (mm_zs 32) (mm_zs 64) (mm_zs 64) (mm_zs 32) (mm_zs 3) (mm_zs 3)) (fX9_wished 700 5 y2 2 4 (-1) 0 0 0 0 0 0 0 0 0 false 0 0 0 z9_limit z9_shapeRows z9_shapeColumns z9_row z9_column (mm_zs 192) (mm_zs 192) (mm_zs 384) (mm_zs 384) (mm_zs 120) (mm_zs 120) (mm_zs 6) (mm_zs 64) (mm_zs 32) (mm_zs 32) (mm_zs 64) (mm_zs 3) (mm_zs 3)) = true := by
  obtain ⟨c4, c5, c6, c7, c8, c9, c10, c11, c12, c13, c14, c15, c16, c17, c18, c19, c20, c21, c22, c23, c24, c25, c26, c27, c28, c29, c30, c31, c32, c33, c34, c35, c36, c37, c38, c39, c40, c41, c42, c43, c44, c45, c46, c47, c48, c49, c50, c51, c52, c53, c54, c55, c56, c57, c58, c59, c60, e8⟩ := cs_17s cs_t5
  have e9 := e9_srch 5
  rw [ft_5] at e9
  unfold fX8_wished fX9_wished
  rw [e8, e9]
  by_cases c1 : y2.toInt < -1
  · rw [if_pos (rg_p (x := y2) (b := -1) (by decide) c1), if_neg (rg_mn (x := y2) (b := -1) (by decide) c1)]
    rfl
  by_cases c2 : 3 ≤ y2.toInt
  · rw [if_neg (rg_n (x := y2) (b := -1) (by decide) (by omega)), if_neg (rg_n (x := y2) (b := 3) (by decide) c2), if_pos (rg_mp (x := y2) (b := -1) (by decide) (by omega))]
    dsimp only [mm_bd28]
    rw [if_neg (rg_qn (x := y2) (b := -1) (by decide) (by omega)), if_pos (rg_mp (x := y2) (b := 3) (by decide) c2)]
    rfl
  rcases rg_m4 y2 (by omega) (by omega) with e | e | e | e <;> subst e <;> rfl
set_option maxHeartbeats 8000000 in
set_option maxRecDepth 100000 in
theorem kw_6 (y2 : Int32) : mm_same (fX8_wished 700 6 y2 2 4 2 4 0 0 0 z5_rowOf z5_colOf (mm_zs 32) (mm_zs 32) (mm_zs 64) (mm_zs 64) false 0 0 0 0 2 4 2 4 0 0 0 z5_rowOf z5_colOf (mm_zs 32) (mm_zs 32) (mm_zs 64) (mm_zs 64) 2 4 2 4 0 0 0 z5_rowOf z5_colOf (mm_zs 32) (mm_zs 32) (mm_zs 64) (mm_zs 64) (mm_zs 32) 2 4 2 4 0 0 0 z5_rowOf z5_colOf (mm_zs 32) (mm_zs 32) (mm_zs 64) (mm_zs 64) (mm_zs 32) 2 4 2 4 0 0 0 z5_rowOf z5_colOf (mm_zs 32) (mm_zs 32) (mm_zs 64) (mm_zs 64) (mm_zs 32) (mm_zs 3) (mm_zs 3)) (fX9_wished 700 6 y2 2 4 (-1) 0 0 0 0 0 0 0 0 0 false 0 0 0 z9_limit z9_shapeRows z9_shapeColumns z9_row z9_column (mm_zs 192) (mm_zs 192) (mm_zs 384) (mm_zs 384) (mm_zs 120) (mm_zs 120) (mm_zs 6) (mm_zs 64) (mm_zs 32) (mm_zs 32) (mm_zs 64) (mm_zs 3) (mm_zs 3)) = true := by
  obtain ⟨c4, c5, c6, c7, c8, c9, c10, c11, c12, c13, c14, c15, c16, c17, c18, c19, c20, c21, c22, c23, c24, c25, c26, c27, c28, c29, c30, c31, c32, c33, c34, c35, c36, c37, c38, c39, c40, c41, c42, c43, c44, c45, c46, c47, c48, c49, c50, c51, c52, c53, c54, c55, c56, c57, c58, c59, c60, e8⟩ := cs_17s cs_t6
  have e9 := e9_srch 6
  rw [ft_6] at e9
  unfold fX8_wished fX9_wished
  rw [e8, e9]
  by_cases c1 : y2.toInt < -1
  · rw [if_pos (rg_p (x := y2) (b := -1) (by decide) c1), if_neg (rg_mn (x := y2) (b := -1) (by decide) c1)]
    rfl
  by_cases c2 : 3 ≤ y2.toInt
  · rw [if_neg (rg_n (x := y2) (b := -1) (by decide) (by omega)), if_neg (rg_n (x := y2) (b := 3) (by decide) c2), if_pos (rg_mp (x := y2) (b := -1) (by decide) (by omega))]
    dsimp only [mm_bd28]
    rw [if_neg (rg_qn (x := y2) (b := -1) (by decide) (by omega)), if_pos (rg_mp (x := y2) (b := 3) (by decide) c2)]
    rfl
  rcases rg_m4 y2 (by omega) (by omega) with e | e | e | e <;> subst e <;> rfl
set_option maxHeartbeats 8000000 in
set_option maxRecDepth 100000 in
theorem kw_7 (y2 : Int32) : mm_same (fX8_wished 700 7 y2 2 4 2 4 0 0 0 z5_rowOf z5_colOf (mm_zs 32) (mm_zs 32) (mm_zs 64) (mm_zs 64) false 0 0 0 0 2 4 2 4 0 0 0 z5_rowOf z5_colOf (mm_zs 32) (mm_zs 32) (mm_zs 64) (mm_zs 64) 2 4 2 4 0 0 0 z5_rowOf z5_colOf (mm_zs 32) (mm_zs 32) (mm_zs 64) (mm_zs 64) (mm_zs 32) 2 4 2 4 0 0 0 z5_rowOf z5_colOf (mm_zs 32) (mm_zs 32) (mm_zs 64) (mm_zs 64) (mm_zs 32) 2 4 2 4 0 0 0 z5_rowOf z5_colOf (mm_zs 32) (mm_zs 32) (mm_zs 64) (mm_zs 64) (mm_zs 32) (mm_zs 3) (mm_zs 3)) (fX9_wished 700 7 y2 2 4 (-1) 0 0 0 0 0 0 0 0 0 false 0 0 0 z9_limit z9_shapeRows z9_shapeColumns z9_row z9_column (mm_zs 192) (mm_zs 192) (mm_zs 384) (mm_zs 384) (mm_zs 120) (mm_zs 120) (mm_zs 6) (mm_zs 64) (mm_zs 32) (mm_zs 32) (mm_zs 64) (mm_zs 3) (mm_zs 3)) = true := by
  obtain ⟨c4, c5, c6, c7, c8, c9, c10, c11, c12, c13, c14, c15, c16, c17, c18, c19, c20, c21, c22, c23, c24, c25, c26, c27, c28, c29, c30, c31, c32, c33, c34, c35, c36, c37, c38, c39, c40, c41, c42, c43, c44, c45, c46, c47, c48, c49, c50, c51, c52, c53, c54, c55, c56, c57, c58, c59, c60, e8⟩ := cs_17s cs_t7
  have e9 := e9_srch 7
  rw [ft_7] at e9
  unfold fX8_wished fX9_wished
  rw [e8, e9]
  by_cases c1 : y2.toInt < -1
  · rw [if_pos (rg_p (x := y2) (b := -1) (by decide) c1), if_neg (rg_mn (x := y2) (b := -1) (by decide) c1)]
    rfl
  by_cases c2 : 3 ≤ y2.toInt
  · rw [if_neg (rg_n (x := y2) (b := -1) (by decide) (by omega)), if_neg (rg_n (x := y2) (b := 3) (by decide) c2), if_pos (rg_mp (x := y2) (b := -1) (by decide) (by omega))]
    dsimp only [mm_bd28]
    rw [if_neg (rg_qn (x := y2) (b := -1) (by decide) (by omega)), if_pos (rg_mp (x := y2) (b := 3) (by decide) c2)]
    rfl
  rcases rg_m4 y2 (by omega) (by omega) with e | e | e | e <;> subst e <;> rfl
set_option maxHeartbeats 8000000 in
set_option maxRecDepth 100000 in
theorem kk_17 (y1 : Int32) (y2 : Int32) : mm_same (fX8_wished 700 y1 y2 2 4 2 4 0 0 0 z5_rowOf z5_colOf (mm_zs 32) (mm_zs 32) (mm_zs 64) (mm_zs 64) false 0 0 0 0 2 4 2 4 0 0 0 z5_rowOf z5_colOf (mm_zs 32) (mm_zs 32) (mm_zs 64) (mm_zs 64) 2 4 2 4 0 0 0 z5_rowOf z5_colOf (mm_zs 32) (mm_zs 32) (mm_zs 64) (mm_zs 64) (mm_zs 32) 2 4 2 4 0 0 0 z5_rowOf z5_colOf (mm_zs 32) (mm_zs 32) (mm_zs 64) (mm_zs 64) (mm_zs 32) 2 4 2 4 0 0 0 z5_rowOf z5_colOf (mm_zs 32) (mm_zs 32) (mm_zs 64) (mm_zs 64) (mm_zs 32) (mm_zs 3) (mm_zs 3)) (fX9_wished 700 y1 y2 2 4 (-1) 0 0 0 0 0 0 0 0 0 false 0 0 0 z9_limit z9_shapeRows z9_shapeColumns z9_row z9_column (mm_zs 192) (mm_zs 192) (mm_zs 384) (mm_zs 384) (mm_zs 120) (mm_zs 120) (mm_zs 6) (mm_zs 64) (mm_zs 32) (mm_zs 32) (mm_zs 64) (mm_zs 3) (mm_zs 3)) = true := by
  by_cases h : 0 ≤ y1.toInt ∧ y1.toInt < 8
  · rcases rg_eight y1 h.1 h.2 with e | e | e | e | e | e | e | e
    · subst e; exact kw_0 y2
    · subst e; exact kw_1 y2
    · subst e; exact kw_2 y2
    · subst e; exact kw_3 y2
    · subst e; exact kw_4 y2
    · subst e; exact kw_5 y2
    · subst e; exact kw_6 y2
    · subst e; exact kw_7 y2
  · unfold fX8_wished fX9_wished
    rw [rg_f5f y1 (by omega), rg_f9f y1 (by omega)]
    rfl
set_option maxHeartbeats 8000000 in
set_option maxRecDepth 100000 in
theorem pp_17 (y1 : Int32) (y2 : Int32) : ∃ (r : Int32) (p_search_found : Bool) (p_search_wrong : Int32) (p_search_more : Int32) (p_search_folds : Int32) (p_search_wanted : Int32) (p_search_levels0_rows : Int32) (p_search_levels0_cols : Int32) (p_search_levels0_high : Int32) (p_search_levels0_wide : Int32) (p_search_levels0_folds : Int32) (p_search_levels0_wrong : Int32) (p_search_levels0_more : Int32) (p_search_levels0_rowOf : List Int32) (p_search_levels0_colOf : List Int32) (p_search_levels0_below : List Int32) (p_search_levels0_face : List Int32) (p_search_levels0_worn : List Int32) (p_search_levels0_last : List Int32) (p_search_levels1_rows : Int32) (p_search_levels1_cols : Int32) (p_search_levels1_high : Int32) (p_search_levels1_wide : Int32) (p_search_levels1_folds : Int32) (p_search_levels1_wrong : Int32) (p_search_levels1_more : Int32) (p_search_levels1_rowOf : List Int32) (p_search_levels1_colOf : List Int32) (p_search_levels1_below : List Int32) (p_search_levels1_face : List Int32) (p_search_levels1_worn : List Int32) (p_search_levels1_last : List Int32) (p_search_levels1_tall : List Int32) (p_search_levels2_rows : Int32) (p_search_levels2_cols : Int32) (p_search_levels2_high : Int32) (p_search_levels2_wide : Int32) (p_search_levels2_folds : Int32) (p_search_levels2_wrong : Int32) (p_search_levels2_more : Int32) (p_search_levels2_rowOf : List Int32) (p_search_levels2_colOf : List Int32) (p_search_levels2_below : List Int32) (p_search_levels2_face : List Int32) (p_search_levels2_worn : List Int32) (p_search_levels2_last : List Int32) (p_search_levels2_tall : List Int32) (p_search_levels3_rows : Int32) (p_search_levels3_cols : Int32) (p_search_levels3_high : Int32) (p_search_levels3_wide : Int32) (p_search_levels3_folds : Int32) (p_search_levels3_wrong : Int32) (p_search_levels3_more : Int32) (p_search_levels3_rowOf : List Int32) (p_search_levels3_colOf : List Int32) (p_search_levels3_below : List Int32) (p_search_levels3_face : List Int32) (p_search_levels3_worn : List Int32) (p_search_levels3_last : List Int32) (p_search_levels3_tall : List Int32) (p_search_path : List Int32) (p_search_best : List Int32) (q_base : Int32) (q_at : Int32) (q_ends : Int32) (q_fault : Int32) (q_opened : Int32) (q_bentMany : Int32) (q_bentWrong : Int32) (q_moreWorn : Int32) (q_wishedField : Int32) (q_isFound : Bool) (q_bestWrong : Int32) (q_bestWorn : Int32) (q_bestMany : Int32) (q_shapeRows : List Int32) (q_shapeColumns : List Int32) (q_row : List Int32) (q_column : List Int32) (q_below : List Int32) (q_face : List Int32) (q_worn : List Int32) (q_lastBend : List Int32) (q_names : List Int32) (q_bends : List Int32) (q_high : List Int32) (q_to : List Int32) (q_pileSize : List Int32) (q_way1 : List Int32) (q_bestWay : List Int32), fX8_wished 700 y1 y2 2 4 2 4 0 0 0 z5_rowOf z5_colOf (mm_zs 32) (mm_zs 32) (mm_zs 64) (mm_zs 64) false 0 0 0 0 2 4 2 4 0 0 0 z5_rowOf z5_colOf (mm_zs 32) (mm_zs 32) (mm_zs 64) (mm_zs 64) 2 4 2 4 0 0 0 z5_rowOf z5_colOf (mm_zs 32) (mm_zs 32) (mm_zs 64) (mm_zs 64) (mm_zs 32) 2 4 2 4 0 0 0 z5_rowOf z5_colOf (mm_zs 32) (mm_zs 32) (mm_zs 64) (mm_zs 64) (mm_zs 32) 2 4 2 4 0 0 0 z5_rowOf z5_colOf (mm_zs 32) (mm_zs 32) (mm_zs 64) (mm_zs 64) (mm_zs 32) (mm_zs 3) (mm_zs 3) = some (r, p_search_found, p_search_wrong, p_search_more, p_search_folds, p_search_wanted, p_search_levels0_rows, p_search_levels0_cols, p_search_levels0_high, p_search_levels0_wide, p_search_levels0_folds, p_search_levels0_wrong, p_search_levels0_more, p_search_levels0_rowOf, p_search_levels0_colOf, p_search_levels0_below, p_search_levels0_face, p_search_levels0_worn, p_search_levels0_last, p_search_levels1_rows, p_search_levels1_cols, p_search_levels1_high, p_search_levels1_wide, p_search_levels1_folds, p_search_levels1_wrong, p_search_levels1_more, p_search_levels1_rowOf, p_search_levels1_colOf, p_search_levels1_below, p_search_levels1_face, p_search_levels1_worn, p_search_levels1_last, p_search_levels1_tall, p_search_levels2_rows, p_search_levels2_cols, p_search_levels2_high, p_search_levels2_wide, p_search_levels2_folds, p_search_levels2_wrong, p_search_levels2_more, p_search_levels2_rowOf, p_search_levels2_colOf, p_search_levels2_below, p_search_levels2_face, p_search_levels2_worn, p_search_levels2_last, p_search_levels2_tall, p_search_levels3_rows, p_search_levels3_cols, p_search_levels3_high, p_search_levels3_wide, p_search_levels3_folds, p_search_levels3_wrong, p_search_levels3_more, p_search_levels3_rowOf, p_search_levels3_colOf, p_search_levels3_below, p_search_levels3_face, p_search_levels3_worn, p_search_levels3_last, p_search_levels3_tall, p_search_path, p_search_best) ∧ fX9_wished 700 y1 y2 2 4 (-1) 0 0 0 0 0 0 0 0 0 false 0 0 0 z9_limit z9_shapeRows z9_shapeColumns z9_row z9_column (mm_zs 192) (mm_zs 192) (mm_zs 384) (mm_zs 384) (mm_zs 120) (mm_zs 120) (mm_zs 6) (mm_zs 64) (mm_zs 32) (mm_zs 32) (mm_zs 64) (mm_zs 3) (mm_zs 3) = some (r, q_base, q_at, q_ends, q_fault, q_opened, q_bentMany, q_bentWrong, q_moreWorn, q_wishedField, q_isFound, q_bestWrong, q_bestWorn, q_bestMany, q_shapeRows, q_shapeColumns, q_row, q_column, q_below, q_face, q_worn, q_lastBend, q_names, q_bends, q_high, q_to, q_pileSize, q_way1, q_bestWay) := by
  obtain ⟨r, ⟨p0, p1, p2, p3, p4, p5, p6, p7, p8, p9, p10, p11, p12, p13, p14, p15, p16, p17, p18, p19, p20, p21, p22, p23, p24, p25, p26, p27, p28, p29, p30, p31, p32, p33, p34, p35, p36, p37, p38, p39, p40, p41, p42, p43, p44, p45, p46, p47, p48, p49, p50, p51, p52, p53, p54, p55, p56, p57, p58, p59, p60, p61⟩, ⟨q0, q1, q2, q3, q4, q5, q6, q7, q8, q9, q10, q11, q12, q13, q14, q15, q16, q17, q18, q19, q20, q21, q22, q23, q24, q25, q26, q27⟩, h8, h9⟩ := mm_sames (kk_17 y1 y2)
  exact ⟨r, p0, p1, p2, p3, p4, p5, p6, p7, p8, p9, p10, p11, p12, p13, p14, p15, p16, p17, p18, p19, p20, p21, p22, p23, p24, p25, p26, p27, p28, p29, p30, p31, p32, p33, p34, p35, p36, p37, p38, p39, p40, p41, p42, p43, p44, p45, p46, p47, p48, p49, p50, p51, p52, p53, p54, p55, p56, p57, p58, p59, p60, p61, q0, q1, q2, q3, q4, q5, q6, q7, q8, q9, q10, q11, q12, q13, q14, q15, q16, q17, q18, q19, q20, q21, q22, q23, q24, q25, q26, q27, h8, h9⟩
set_option maxHeartbeats 8000000 in
set_option maxRecDepth 100000 in
theorem kk_18 (y1 : Int32) : mm_same (fX8_right 700 y1 2 4 2 4 0 0 0 z5_rowOf z5_colOf (mm_zs 32) (mm_zs 32) (mm_zs 64) (mm_zs 64) 0 0 (mm_zs 121) (mm_zs 121) false 0 0 0 0 2 4 2 4 0 0 0 z5_rowOf z5_colOf (mm_zs 32) (mm_zs 32) (mm_zs 64) (mm_zs 64) 2 4 2 4 0 0 0 z5_rowOf z5_colOf (mm_zs 32) (mm_zs 32) (mm_zs 64) (mm_zs 64) (mm_zs 64) (mm_zs 32) 2 4 2 4 0 0 0 z5_rowOf z5_colOf (mm_zs 32) (mm_zs 32) (mm_zs 64) (mm_zs 64) (mm_zs 64) (mm_zs 32) 2 4 2 4 0 0 0 z5_rowOf z5_colOf (mm_zs 32) (mm_zs 32) (mm_zs 64) (mm_zs 64) (mm_zs 64) (mm_zs 32) (mm_zs 3) (mm_zs 3) 20) (fX9_right 700 y1 2 4 (-1) 0 0 0 0 0 0 0 0 0 false 0 0 0 z9_limit z9_shapeRows z9_shapeColumns z9_row z9_column (mm_zs 192) (mm_zs 192) (mm_zs 384) (mm_zs 384) (mm_zs 120) (mm_zs 120) (mm_zs 6) (mm_zs 64) (mm_zs 32) (mm_zs 32) (mm_zs 64) (mm_zs 3) (mm_zs 3)) = true := by
  obtain ⟨c4, c5, c6, c7, c8, c9, c10, c11, c12, c13, c14, c15, c16, c17, c18, c19, c20, c21, c22, c23, c24, c25, c26, c27, c28, c29, c30, c31, c32, c33, c34, c35, c36, c37, c38, c39, c40, c41, c42, c43, c44, c45, c46, c47, c48, c49, c50, c51, c52, c53, c54, c55, c56, c57, c58, c59, c60, c61, c62, c63, c65, c66, e8⟩ := cs_r
  have e9 := e9_srch (-1)
  rw [ft_r] at e9
  unfold fX8_right fX9_right
  rw [e8, e9]
  by_cases c1 : y1.toInt < -3
  · rw [if_pos (rg_p (x := y1) (b := -3) (by decide) c1), if_neg (rg_mn (x := y1) (b := -3) (by decide) c1)]
    rfl
  by_cases c2 : 3 ≤ y1.toInt
  · rw [if_neg (rg_n (x := y1) (b := -3) (by decide) (by omega)), if_neg (rg_n (x := y1) (b := 3) (by decide) c2), if_pos (rg_mp (x := y1) (b := -3) (by decide) (by omega))]
    dsimp only [mm_bd28]
    rw [if_neg (rg_qn (x := y1) (b := -3) (by decide) (by omega)), if_neg (rg_qn (x := y1) (b := -2) (by decide) (by omega)), if_neg (rg_qn (x := y1) (b := -1) (by decide) (by omega)), if_pos (rg_mp (x := y1) (b := 3) (by decide) c2)]
    rfl
  rcases rg_m6 y1 (by omega) (by omega) with e | e | e | e | e | e <;> subst e <;> rfl
set_option maxHeartbeats 8000000 in
set_option maxRecDepth 100000 in
theorem pp_18 (y1 : Int32) : ∃ (r : Int32) (p_wearing_stacked : Int32) (p_wearing_stack : List Int32) (p_search_found : Bool) (p_search_wrong : Int32) (p_search_more : Int32) (p_search_folds : Int32) (p_search_wanted : Int32) (p_search_levels0_rows : Int32) (p_search_levels0_cols : Int32) (p_search_levels0_high : Int32) (p_search_levels0_wide : Int32) (p_search_levels0_folds : Int32) (p_search_levels0_wrong : Int32) (p_search_levels0_more : Int32) (p_search_levels0_rowOf : List Int32) (p_search_levels0_colOf : List Int32) (p_search_levels0_below : List Int32) (p_search_levels0_face : List Int32) (p_search_levels0_worn : List Int32) (p_search_levels0_last : List Int32) (p_search_levels1_rows : Int32) (p_search_levels1_cols : Int32) (p_search_levels1_high : Int32) (p_search_levels1_wide : Int32) (p_search_levels1_folds : Int32) (p_search_levels1_wrong : Int32) (p_search_levels1_more : Int32) (p_search_levels1_rowOf : List Int32) (p_search_levels1_colOf : List Int32) (p_search_levels1_below : List Int32) (p_search_levels1_face : List Int32) (p_search_levels1_worn : List Int32) (p_search_levels1_last : List Int32) (p_search_levels1_bend : List Int32) (p_search_levels1_tall : List Int32) (p_search_levels2_rows : Int32) (p_search_levels2_cols : Int32) (p_search_levels2_high : Int32) (p_search_levels2_wide : Int32) (p_search_levels2_folds : Int32) (p_search_levels2_wrong : Int32) (p_search_levels2_more : Int32) (p_search_levels2_rowOf : List Int32) (p_search_levels2_colOf : List Int32) (p_search_levels2_below : List Int32) (p_search_levels2_face : List Int32) (p_search_levels2_worn : List Int32) (p_search_levels2_last : List Int32) (p_search_levels2_bend : List Int32) (p_search_levels2_tall : List Int32) (p_search_levels3_rows : Int32) (p_search_levels3_cols : Int32) (p_search_levels3_high : Int32) (p_search_levels3_wide : Int32) (p_search_levels3_folds : Int32) (p_search_levels3_wrong : Int32) (p_search_levels3_more : Int32) (p_search_levels3_rowOf : List Int32) (p_search_levels3_colOf : List Int32) (p_search_levels3_below : List Int32) (p_search_levels3_face : List Int32) (p_search_levels3_worn : List Int32) (p_search_levels3_last : List Int32) (p_search_levels3_bend : List Int32) (p_search_levels3_tall : List Int32) (p_search_path : List Int32) (p_search_best : List Int32) (q_base : Int32) (q_at : Int32) (q_ends : Int32) (q_fault : Int32) (q_opened : Int32) (q_bentMany : Int32) (q_bentWrong : Int32) (q_moreWorn : Int32) (q_wishedField : Int32) (q_isFound : Bool) (q_bestWrong : Int32) (q_bestWorn : Int32) (q_bestMany : Int32) (q_shapeRows : List Int32) (q_shapeColumns : List Int32) (q_row : List Int32) (q_column : List Int32) (q_below : List Int32) (q_face : List Int32) (q_worn : List Int32) (q_lastBend : List Int32) (q_names : List Int32) (q_bends : List Int32) (q_high : List Int32) (q_to : List Int32) (q_pileSize : List Int32) (q_way1 : List Int32) (q_bestWay : List Int32), fX8_right 700 y1 2 4 2 4 0 0 0 z5_rowOf z5_colOf (mm_zs 32) (mm_zs 32) (mm_zs 64) (mm_zs 64) 0 0 (mm_zs 121) (mm_zs 121) false 0 0 0 0 2 4 2 4 0 0 0 z5_rowOf z5_colOf (mm_zs 32) (mm_zs 32) (mm_zs 64) (mm_zs 64) 2 4 2 4 0 0 0 z5_rowOf z5_colOf (mm_zs 32) (mm_zs 32) (mm_zs 64) (mm_zs 64) (mm_zs 64) (mm_zs 32) 2 4 2 4 0 0 0 z5_rowOf z5_colOf (mm_zs 32) (mm_zs 32) (mm_zs 64) (mm_zs 64) (mm_zs 64) (mm_zs 32) 2 4 2 4 0 0 0 z5_rowOf z5_colOf (mm_zs 32) (mm_zs 32) (mm_zs 64) (mm_zs 64) (mm_zs 64) (mm_zs 32) (mm_zs 3) (mm_zs 3) 20 = some (r, p_wearing_stacked, p_wearing_stack, p_search_found, p_search_wrong, p_search_more, p_search_folds, p_search_wanted, p_search_levels0_rows, p_search_levels0_cols, p_search_levels0_high, p_search_levels0_wide, p_search_levels0_folds, p_search_levels0_wrong, p_search_levels0_more, p_search_levels0_rowOf, p_search_levels0_colOf, p_search_levels0_below, p_search_levels0_face, p_search_levels0_worn, p_search_levels0_last, p_search_levels1_rows, p_search_levels1_cols, p_search_levels1_high, p_search_levels1_wide, p_search_levels1_folds, p_search_levels1_wrong, p_search_levels1_more, p_search_levels1_rowOf, p_search_levels1_colOf, p_search_levels1_below, p_search_levels1_face, p_search_levels1_worn, p_search_levels1_last, p_search_levels1_bend, p_search_levels1_tall, p_search_levels2_rows, p_search_levels2_cols, p_search_levels2_high, p_search_levels2_wide, p_search_levels2_folds, p_search_levels2_wrong, p_search_levels2_more, p_search_levels2_rowOf, p_search_levels2_colOf, p_search_levels2_below, p_search_levels2_face, p_search_levels2_worn, p_search_levels2_last, p_search_levels2_bend, p_search_levels2_tall, p_search_levels3_rows, p_search_levels3_cols, p_search_levels3_high, p_search_levels3_wide, p_search_levels3_folds, p_search_levels3_wrong, p_search_levels3_more, p_search_levels3_rowOf, p_search_levels3_colOf, p_search_levels3_below, p_search_levels3_face, p_search_levels3_worn, p_search_levels3_last, p_search_levels3_bend, p_search_levels3_tall, p_search_path, p_search_best) ∧ fX9_right 700 y1 2 4 (-1) 0 0 0 0 0 0 0 0 0 false 0 0 0 z9_limit z9_shapeRows z9_shapeColumns z9_row z9_column (mm_zs 192) (mm_zs 192) (mm_zs 384) (mm_zs 384) (mm_zs 120) (mm_zs 120) (mm_zs 6) (mm_zs 64) (mm_zs 32) (mm_zs 32) (mm_zs 64) (mm_zs 3) (mm_zs 3) = some (r, q_base, q_at, q_ends, q_fault, q_opened, q_bentMany, q_bentWrong, q_moreWorn, q_wishedField, q_isFound, q_bestWrong, q_bestWorn, q_bestMany, q_shapeRows, q_shapeColumns, q_row, q_column, q_below, q_face, q_worn, q_lastBend, q_names, q_bends, q_high, q_to, q_pileSize, q_way1, q_bestWay) := by
  obtain ⟨r, ⟨p0, p1, p2, p3, p4, p5, p6, p7, p8, p9, p10, p11, p12, p13, p14, p15, p16, p17, p18, p19, p20, p21, p22, p23, p24, p25, p26, p27, p28, p29, p30, p31, p32, p33, p34, p35, p36, p37, p38, p39, p40, p41, p42, p43, p44, p45, p46, p47, p48, p49, p50, p51, p52, p53, p54, p55, p56, p57, p58, p59, p60, p61, p62, p63, p64, p65, p66⟩, ⟨q0, q1, q2, q3, q4, q5, q6, q7, q8, q9, q10, q11, q12, q13, q14, q15, q16, q17, q18, q19, q20, q21, q22, q23, q24, q25, q26, q27⟩, h8, h9⟩ := mm_sames (kk_18 y1)
  exact ⟨r, p0, p1, p2, p3, p4, p5, p6, p7, p8, p9, p10, p11, p12, p13, p14, p15, p16, p17, p18, p19, p20, p21, p22, p23, p24, p25, p26, p27, p28, p29, p30, p31, p32, p33, p34, p35, p36, p37, p38, p39, p40, p41, p42, p43, p44, p45, p46, p47, p48, p49, p50, p51, p52, p53, p54, p55, p56, p57, p58, p59, p60, p61, p62, p63, p64, p65, p66, q0, q1, q2, q3, q4, q5, q6, q7, q8, q9, q10, q11, q12, q13, q14, q15, q16, q17, q18, q19, q20, q21, q22, q23, q24, q25, q26, q27, h8, h9⟩
