/-! line 1, way 7 -/
set_option maxHeartbeats 8000000 in
set_option maxRecDepth 100000 in
theorem p9_7_6 : e9_b 700 (eX9_goesDeeper 700 3) 1 0 4 2 2 2 2 4 (-1) 0 0 0 0 0 4 0 4 0 false 0 0 0 z9_limit s9_58 s9_59 g9_row s9_60 s9_69 s9_173 s9_63 s9_140 (mm_zs 120) (mm_zs 120) (mm_zs 6) s9_77 s9_71 (mm_zs 32) s9_67 s9_204 a9_56 = some (0, 0, 0, 0, 0, 4, 0, 4, false, 0, 0, 0, s9_58, s9_59, g9_row, s9_73, s9_74, s9_176, s9_63, s9_136, (mm_zs 6), s9_65, s9_78, (mm_zs 32), s9_67, s9_205, a9_60) := ck_27s (by decide +kernel)
set_option maxHeartbeats 8000000 in
set_option maxRecDepth 100000 in
theorem p9_7_7 : e9_b 700 (eX9_goesDeeper 700 3) 1 0 4 2 2 3 2 4 (-1) 0 0 0 0 0 4 0 4 0 false 0 0 0 z9_limit s9_58 s9_59 g9_row s9_73 s9_74 s9_176 s9_63 s9_136 (mm_zs 120) (mm_zs 120) (mm_zs 6) s9_65 s9_78 (mm_zs 32) s9_67 s9_205 a9_60 = some (0, 0, 0, 0, 0, 4, 0, 4, false, 0, 0, 0, s9_58, s9_59, g9_row, s9_73, s9_80, s9_176, s9_63, s9_132, (mm_zs 6), s9_65, s9_82, (mm_zs 32), s9_67, s9_206, a9_64) := ck_27s (by decide +kernel)
