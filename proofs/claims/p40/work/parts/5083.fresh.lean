/-! The fresh objects -/
theorem fnd_0 : fnd (mm_zs 8) := fun i j h1 h2 e => by
  have f : ∀ c : Int32, j.toInt = c.toInt → j = c := fun c e => Int32.toInt_inj.mp e
  have g : ∀ c : Int32, i.toInt = c.toInt → i = c := fun c e => Int32.toInt_inj.mp e
  have n2 : (2 : Int32).toInt = 2 := by decide
  have n3 : (3 : Int32).toInt = 3 := by decide
  have n4 : (4 : Int32).toInt = 4 := by decide
  have n5 : (5 : Int32).toInt = 5 := by decide
  have n6 : (6 : Int32).toInt = 6 := by decide
  have n7 : (7 : Int32).toInt = 7 := by decide
  have n8 : (8 : Int32).toInt = 8 := by decide
  rcases (show i.toInt = 2 ∨ i.toInt = 3 ∨ i.toInt = 4 ∨ i.toInt = 5 ∨ i.toInt = 6 ∨ i.toInt = 7 by omega) with k | k | k | k | k | k
  · rw [f 3 (by omega), g 2 (by omega)]; decide +kernel
  · rw [f 4 (by omega), g 3 (by omega)]; decide +kernel
  · rw [f 5 (by omega), g 4 (by omega)]; decide +kernel
  · rw [f 6 (by omega), g 5 (by omega)]; decide +kernel
  · rw [f 7 (by omega), g 6 (by omega)]; decide +kernel
  · rw [f 8 (by omega), g 7 (by omega)]; decide +kernel
theorem nw_sh : gi_sh 2 4 2 4 z5_rowOf z5_colOf (mm_zs 32) (mm_zs 32) (mm_zs 64) (mm_zs 64) (mm_zs 64) (mm_zs 32) := ⟨(by decide), (by decide), (by decide), (by decide), (by decide), (by decide), (by decide), (by decide), (by decide +kernel), (by decide +kernel), (by decide +kernel), (by decide +kernel), (by decide +kernel), (by decide +kernel), (by decide +kernel), (by decide +kernel), (zn_len (by decide +kernel) _), (zn_len (by decide +kernel) _)⟩
theorem nw_ch : gi_ch 0 0 (mm_zs 40) (mm_zs 40) := ⟨(by decide), (by decide), (by decide), (by decide), (by decide +kernel), (by decide +kernel)⟩
theorem nw_la : gi_la 0 0 0 (mm_zs 120) (mm_zs 121) (mm_zs 121) (mm_zs 121) := ⟨(by decide), (by decide), (by decide), (by decide), (by decide), (by decide), (by decide +kernel), (by decide +kernel), (by decide +kernel), (by decide +kernel)⟩
theorem nw_pl : gi_pl 0 (mm_zs 12) (mm_zs 12) := ⟨(by decide), (by decide), (by decide +kernel), (by decide +kernel)⟩
theorem nw_sf : gi_sf 0 (mm_zl 60) := ⟨(by decide), (by decide), (by decide +kernel)⟩
theorem nw_se : gi_se 0 (mm_zs 3) (mm_zs 3) := ⟨(by decide), (by decide), (by decide +kernel), (by decide +kernel)⟩
theorem nw_st : gi_st (mm_zs 7) (mm_zs 680) (mm_zs 8) := ⟨(by decide +kernel), (by decide +kernel), (by decide +kernel), fnd_0⟩
theorem nw_fo : gi_fo 0 (mm_zs 50) (mm_zs 24) := ⟨(by decide), (by decide), (by decide +kernel), (by decide +kernel), (zn_len (by decide +kernel) _)⟩
theorem nw_gm_ch : gm_ch 0 0 z9_limit (mm_zs 40) (mm_zs 40) := ⟨(by decide), (by decide), (by decide), (by decide), (by decide +kernel), (by decide +kernel), (by decide +kernel), (by decide)⟩
theorem nw_gm_sh : gm_sh 2 4 false 0 0 z9_shapeRows z9_shapeColumns z9_row z9_column (mm_zs 192) (mm_zs 192) (mm_zs 384) (mm_zs 384) := ⟨(by decide), (by decide), (by decide), (by decide), (by decide +kernel), (by decide +kernel), (by decide +kernel), (by decide +kernel), (by decide +kernel), (by decide +kernel), (by decide +kernel), (by decide +kernel), ⟨by decide +kernel, by decide +kernel, by decide +kernel, by decide +kernel, zn_len (by decide +kernel) _, zn_len (by decide +kernel) _⟩, (fun h => absurd rfl h)⟩
theorem nw_gm_tx : gm_tx 0 (-1) (mm_zs 120) (mm_zs 120) (mm_zs 6) (mm_zs 64) (mm_zs 32) (mm_zs 32) (mm_zs 64) := ⟨(by decide), (by decide), (by decide), (by decide), (by decide +kernel), (by decide +kernel), (by decide +kernel), (by decide +kernel), (by decide +kernel), (by decide +kernel), (by decide +kernel)⟩
theorem nw_gm_pl : gm_pl 0 (mm_zs 12) (mm_zs 12) := ⟨(by decide), (by decide), (by decide +kernel), (by decide +kernel)⟩
theorem nw_gm_se : gm_se 0 (mm_zs 3) (mm_zs 3) := ⟨(by decide), (by decide), (by decide +kernel), (by decide +kernel)⟩
theorem nw_gm_or : gm_or (mm_zs 7) (mm_zs 7) := ⟨(by decide +kernel), (by decide +kernel)⟩
theorem nw_gm_bo : gm_bo 0 (mm_zs 50) (mm_zs 24) := ⟨(by decide), (by decide), (by decide +kernel), (by decide +kernel), (zn_len (by decide +kernel) _)⟩
theorem nw_gm_sf : gm_sf z9_shelf (mm_zs 6) (mm_zl 360) (mm_zl 60) := ⟨(by decide +kernel), (by decide +kernel), (by decide +kernel), (by decide +kernel), (zn_len (by decide +kernel) _)⟩
