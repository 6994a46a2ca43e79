/-! line 1, way 6 -/
set_option maxHeartbeats 8000000 in
set_option maxRecDepth 100000 in
theorem p9_6_6 : e9_b 700 (eX9_goesDeeper 700 3) 1 0 4 2 2 2 2 4 (-1) 0 0 0 0 0 4 0 4 0 false 0 0 0 z9_limit s9_58 s9_59 g9_row s9_60 s9_135 s9_173 s9_63 s9_76 (mm_zs 120) (mm_zs 120) (mm_zs 6) s9_77 s9_137 (mm_zs 32) s9_67 s9_175 a9_40 = some (0, 0, 0, 0, 0, 4, 0, 4, false, 0, 0, 0, s9_58, s9_59, g9_row, s9_73, s9_139, s9_176, s9_63, s9_70, (mm_zs 6), s9_65, s9_141, (mm_zs 32), s9_67, s9_177, a9_44) := ck_27s (by decide +kernel)
set_option maxHeartbeats 8000000 in
set_option maxRecDepth 100000 in
theorem p9_6_7 : e9_b 700 (eX9_goesDeeper 700 3) 1 0 4 2 2 3 2 4 (-1) 0 0 0 0 0 4 0 4 0 false 0 0 0 z9_limit s9_58 s9_59 g9_row s9_73 s9_139 s9_176 s9_63 s9_70 (mm_zs 120) (mm_zs 120) (mm_zs 6) s9_65 s9_141 (mm_zs 32) s9_67 s9_177 a9_44 = some (0, 0, 0, 0, 0, 4, 0, 4, false, 0, 0, 0, s9_58, s9_59, g9_row, s9_73, s9_143, s9_176, s9_63, s9_64, (mm_zs 6), s9_65, s9_145, (mm_zs 32), s9_67, s9_178, a9_48) := ck_27s (by decide +kernel)
