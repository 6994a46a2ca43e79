/-! what follows the fold at line 1, way 5 -/
set_option maxHeartbeats 8000000 in
set_option maxRecDepth 100000 in
theorem p9_5 : e9_b 700 (eX9_goesDeeper 700 4) 0 0 0 1 1 5 2 4 (-1) 0 0 0 0 0 2 0 2 0 false 0 0 0 z9_limit s9_25 s9_26 g9_row s9_27 s9_28 s9_29 s9_30 s9_31 (mm_zs 120) (mm_zs 120) (mm_zs 6) s9_32 s9_33 s9_34 s9_35 s9_36 a9_5 = some (0, 0, 0, 0, 0, 2, 0, 2, false, 0, 0, 0, s9_25, s9_26, g9_row, s9_27, s9_37, s9_29, s9_30, s9_38, (mm_zs 6), s9_32, s9_39, s9_34, s9_35, s9_40, a9_6) := ck_27s (by decide +kernel)
