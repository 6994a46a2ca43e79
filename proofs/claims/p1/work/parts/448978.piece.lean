/-! what follows the fold at line 2, way 2 -/
set_option maxHeartbeats 8000000 in
set_option maxRecDepth 100000 in
theorem p9_10 : e9_b 700 (eX9_goesDeeper 700 4) 0 0 0 1 2 2 2 4 (-1) 0 0 0 0 0 4 0 4 0 false 0 0 0 z9_limit s9_47 s9_48 s9_6 s9_49 s9_58 s9_51 s9_52 s9_59 (mm_zs 120) (mm_zs 120) (mm_zs 6) s9_54 s9_60 (mm_zs 32) s9_56 s9_61 a9_10 = some (0, 0, 0, 0, 0, 4, 0, 4, false, 0, 0, 0, s9_47, s9_48, s9_6, s9_62, s9_63, s9_64, s9_52, s9_65, (mm_zs 6), s9_66, s9_67, (mm_zs 32), s9_56, s9_68, a9_11) := ck_27s (by decide +kernel)
