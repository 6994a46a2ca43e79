/-! line 1, way 5 -/
set_option maxHeartbeats 8000000 in
set_option maxRecDepth 100000 in
theorem p9_5_6 : e9_b 700 (eX9_goesDeeper 700 3) 1 0 4 2 2 2 2 4 (-1) 0 0 0 0 0 4 0 4 0 false 0 0 0 z9_limit s9_58 s9_59 g9_row s9_60 s9_135 s9_62 s9_63 s9_136 (mm_zs 120) (mm_zs 120) (mm_zs 6) s9_65 s9_137 (mm_zs 32) s9_67 s9_138 a9_24 = some (0, 0, 0, 0, 0, 4, 0, 4, false, 0, 0, 0, s9_58, s9_59, g9_row, s9_73, s9_139, s9_75, s9_63, s9_140, (mm_zs 6), s9_77, s9_141, (mm_zs 32), s9_67, s9_142, a9_28) := ck_27s (by decide +kernel)
set_option maxHeartbeats 8000000 in
set_option maxRecDepth 100000 in
theorem p9_5_7 : e9_b 700 (eX9_goesDeeper 700 3) 1 0 4 2 2 3 2 4 (-1) 0 0 0 0 0 4 0 4 0 false 0 0 0 z9_limit s9_58 s9_59 g9_row s9_73 s9_139 s9_75 s9_63 s9_140 (mm_zs 120) (mm_zs 120) (mm_zs 6) s9_77 s9_141 (mm_zs 32) s9_67 s9_142 a9_28 = some (0, 0, 0, 0, 0, 4, 0, 4, false, 0, 0, 0, s9_58, s9_59, g9_row, s9_73, s9_143, s9_75, s9_63, s9_144, (mm_zs 6), s9_77, s9_145, (mm_zs 32), s9_67, s9_146, a9_32) := ck_27s (by decide +kernel)
