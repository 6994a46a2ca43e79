/-! line 1, way 5 -/
set_option maxHeartbeats 8000000 in
set_option maxRecDepth 100000 in
theorem p9_5_0 : e9_b 700 (eX9_goesDeeper 700 3) 1 0 4 2 1 0 2 4 (-1) 0 0 0 0 0 4 0 4 0 false 0 0 0 z9_limit s9_58 s9_84 g9_row s9_99 s9_113 s9_101 s9_88 s9_114 (mm_zs 120) (mm_zs 120) (mm_zs 6) s9_115 s9_116 (mm_zs 32) s9_32 s9_117 a9_16 = some (0, 0, 0, 0, 0, 2, 0, 2, false, 0, 0, 0, s9_58, s9_84, g9_row, s9_36, s9_118, s9_119, s9_120, s9_121, (mm_zs 6), s9_41, s9_56, s9_12, s9_43, s9_122, a9_16) := ck_27s (by decide +kernel)
set_option maxHeartbeats 8000000 in
set_option maxRecDepth 100000 in
theorem p9_5_1 : e9_b 700 (eX9_goesDeeper 700 3) 1 0 4 2 1 1 2 4 (-1) 0 0 0 0 0 2 0 2 0 false 0 0 0 z9_limit s9_58 s9_84 g9_row s9_36 s9_118 s9_119 s9_120 s9_121 (mm_zs 120) (mm_zs 120) (mm_zs 6) s9_41 s9_56 s9_12 s9_43 s9_122 a9_16 = some (0, 0, 0, 0, 0, 2, 0, 2, false, 0, 0, 0, s9_58, s9_84, g9_row, s9_36, s9_123, s9_119, s9_120, s9_124, (mm_zs 6), s9_47, s9_53, s9_12, s9_43, s9_125, a9_16) := ck_27s (by decide +kernel)
set_option maxHeartbeats 8000000 in
set_option maxRecDepth 100000 in
theorem p9_5_2 : e9_b 700 (eX9_goesDeeper 700 3) 1 0 4 2 1 2 2 4 (-1) 0 0 0 0 0 2 0 2 0 false 0 0 0 z9_limit s9_58 s9_84 g9_row s9_36 s9_123 s9_119 s9_120 s9_124 (mm_zs 120) (mm_zs 120) (mm_zs 6) s9_47 s9_53 s9_12 s9_43 s9_125 a9_16 = some (0, 0, 0, 0, 0, 2, 0, 2, false, 0, 0, 0, s9_58, s9_84, g9_row, s9_50, s9_126, s9_127, s9_120, s9_121, (mm_zs 6), s9_41, s9_48, s9_22, s9_43, s9_128, a9_16) := ck_27s (by decide +kernel)
set_option maxHeartbeats 8000000 in
set_option maxRecDepth 100000 in
theorem p9_5_3 : e9_b 700 (eX9_goesDeeper 700 3) 1 0 4 2 1 3 2 4 (-1) 0 0 0 0 0 2 0 2 0 false 0 0 0 z9_limit s9_58 s9_84 g9_row s9_50 s9_126 s9_127 s9_120 s9_121 (mm_zs 120) (mm_zs 120) (mm_zs 6) s9_41 s9_48 s9_22 s9_43 s9_128 a9_16 = some (0, 0, 0, 0, 0, 2, 0, 2, false, 0, 0, 0, s9_58, s9_84, g9_row, s9_50, s9_129, s9_127, s9_120, s9_124, (mm_zs 6), s9_47, s9_42, s9_22, s9_43, s9_130, a9_16) := ck_27s (by decide +kernel)
set_option maxHeartbeats 8000000 in
set_option maxRecDepth 100000 in
theorem p9_5_4 : e9_b 700 (eX9_goesDeeper 700 3) 1 0 4 2 2 0 2 4 (-1) 0 0 0 0 0 2 0 2 0 false 0 0 0 z9_limit s9_58 s9_84 g9_row s9_50 s9_129 s9_127 s9_120 s9_124 (mm_zs 120) (mm_zs 120) (mm_zs 6) s9_47 s9_42 s9_22 s9_43 s9_130 a9_16 = some (0, 0, 0, 0, 0, 4, 0, 4, false, 0, 0, 0, s9_58, s9_59, g9_row, s9_60, s9_131, s9_62, s9_63, s9_132, (mm_zs 6), s9_65, s9_133, (mm_zs 32), s9_67, s9_134, a9_20) := ck_27s (by decide +kernel)
set_option maxHeartbeats 8000000 in
set_option maxRecDepth 100000 in
theorem p9_5_5 : e9_b 700 (eX9_goesDeeper 700 3) 1 0 4 2 2 1 2 4 (-1) 0 0 0 0 0 4 0 4 0 false 0 0 0 z9_limit s9_58 s9_59 g9_row s9_60 s9_131 s9_62 s9_63 s9_132 (mm_zs 120) (mm_zs 120) (mm_zs 6) s9_65 s9_133 (mm_zs 32) s9_67 s9_134 a9_20 = some (0, 0, 0, 0, 0, 4, 0, 4, false, 0, 0, 0, s9_58, s9_59, g9_row, s9_60, s9_135, s9_62, s9_63, s9_136, (mm_zs 6), s9_65, s9_137, (mm_zs 32), s9_67, s9_138, a9_24) := ck_27s (by decide +kernel)
