/-! what follows the fold at line 1, way 6 -/
set_option maxHeartbeats 8000000 in
set_option maxRecDepth 100000 in
theorem p9_6 : e9_b 700 (eX9_goesDeeper 700 4) 0 0 0 1 1 6 2 4 (-1) 0 0 0 0 0 2 0 2 0 false 0 0 0 z9_limit s9_25 s9_26 g9_row s9_27 s9_37 s9_29 s9_30 s9_38 (mm_zs 120) (mm_zs 120) (mm_zs 6) s9_32 s9_39 s9_34 s9_35 s9_40 a9_6 = some (0, 0, 0, 0, 0, 2, 0, 2, false, 0, 0, 0, s9_25, s9_26, g9_row, s9_27, s9_37, s9_41, s9_30, s9_42, (mm_zs 6), s9_43, s9_39, s9_34, s9_35, s9_44, a9_7) := ck_27s (by decide +kernel)
