/-! what follows the fold at line 2, way 3 -/
set_option maxHeartbeats 8000000 in
set_option maxRecDepth 100000 in
theorem p9_11 : e9_b 700 (eX9_goesDeeper 700 4) 0 0 0 1 2 3 2 4 (-1) 0 0 0 0 0 4 0 4 0 false 0 0 0 z9_limit s9_47 s9_48 s9_6 s9_62 s9_63 s9_64 s9_52 s9_65 (mm_zs 120) (mm_zs 120) (mm_zs 6) s9_66 s9_67 (mm_zs 32) s9_56 s9_68 a9_11 = some (0, 0, 0, 0, 0, 4, 0, 4, false, 0, 0, 0, s9_47, s9_48, s9_6, s9_62, s9_69, s9_64, s9_52, s9_70, (mm_zs 6), s9_66, s9_71, (mm_zs 32), s9_56, s9_72, a9_12) := ck_27s (by decide +kernel)
