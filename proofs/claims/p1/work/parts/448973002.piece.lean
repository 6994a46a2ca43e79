/-! line 1, way 4 -/
set_option maxHeartbeats 8000000 in
set_option maxRecDepth 100000 in
theorem p9_4_6 : e9_b 700 (eX9_goesDeeper 700 3) 1 0 4 2 2 2 2 4 (-1) 0 0 0 0 0 4 0 4 0 false 0 0 0 z9_limit s9_58 s9_59 g9_row s9_60 s9_69 s9_62 s9_63 s9_70 (mm_zs 120) (mm_zs 120) (mm_zs 6) s9_65 s9_71 (mm_zs 32) s9_67 s9_72 a9_8 = some (0, 0, 0, 0, 0, 4, 0, 4, false, 0, 0, 0, s9_58, s9_59, g9_row, s9_73, s9_74, s9_75, s9_63, s9_76, (mm_zs 6), s9_77, s9_78, (mm_zs 32), s9_67, s9_79, a9_12) := ck_27s (by decide +kernel)
set_option maxHeartbeats 8000000 in
set_option maxRecDepth 100000 in
theorem p9_4_7 : e9_b 700 (eX9_goesDeeper 700 3) 1 0 4 2 2 3 2 4 (-1) 0 0 0 0 0 4 0 4 0 false 0 0 0 z9_limit s9_58 s9_59 g9_row s9_73 s9_74 s9_75 s9_63 s9_76 (mm_zs 120) (mm_zs 120) (mm_zs 6) s9_77 s9_78 (mm_zs 32) s9_67 s9_79 a9_12 = some (0, 0, 0, 0, 0, 4, 0, 4, false, 0, 0, 0, s9_58, s9_59, g9_row, s9_73, s9_80, s9_75, s9_63, s9_81, (mm_zs 6), s9_77, s9_82, (mm_zs 32), s9_67, s9_83, a9_16) := ck_27s (by decide +kernel)
