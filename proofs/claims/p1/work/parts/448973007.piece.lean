/-! line 1, way 6 -/
set_option maxHeartbeats 8000000 in
set_option maxRecDepth 100000 in
theorem p9_6_0 : e9_b 700 (eX9_goesDeeper 700 3) 1 0 4 2 1 0 2 4 (-1) 0 0 0 0 0 4 0 4 0 false 0 0 0 z9_limit s9_58 s9_84 g9_row s9_99 s9_155 s9_158 s9_88 s9_159 (mm_zs 120) (mm_zs 120) (mm_zs 6) s9_30 s9_116 (mm_zs 32) s9_32 s9_160 a9_32 = some (0, 0, 0, 0, 0, 2, 0, 2, false, 0, 0, 0, s9_58, s9_84, g9_row, s9_36, s9_161, s9_162, s9_120, s9_163, (mm_zs 6), s9_47, s9_56, s9_12, s9_43, s9_164, a9_32) := ck_27s (by decide +kernel)
set_option maxHeartbeats 8000000 in
set_option maxRecDepth 100000 in
theorem p9_6_1 : e9_b 700 (eX9_goesDeeper 700 3) 1 0 4 2 1 1 2 4 (-1) 0 0 0 0 0 2 0 2 0 false 0 0 0 z9_limit s9_58 s9_84 g9_row s9_36 s9_161 s9_162 s9_120 s9_163 (mm_zs 120) (mm_zs 120) (mm_zs 6) s9_47 s9_56 s9_12 s9_43 s9_164 a9_32 = some (0, 0, 0, 0, 0, 2, 0, 2, false, 0, 0, 0, s9_58, s9_84, g9_row, s9_36, s9_165, s9_162, s9_120, s9_166, (mm_zs 6), s9_41, s9_53, s9_12, s9_43, s9_167, a9_32) := ck_27s (by decide +kernel)
set_option maxHeartbeats 8000000 in
set_option maxRecDepth 100000 in
theorem p9_6_2 : e9_b 700 (eX9_goesDeeper 700 3) 1 0 4 2 1 2 2 4 (-1) 0 0 0 0 0 2 0 2 0 false 0 0 0 z9_limit s9_58 s9_84 g9_row s9_36 s9_165 s9_162 s9_120 s9_166 (mm_zs 120) (mm_zs 120) (mm_zs 6) s9_41 s9_53 s9_12 s9_43 s9_167 a9_32 = some (0, 0, 0, 0, 0, 2, 0, 2, false, 0, 0, 0, s9_58, s9_84, g9_row, s9_50, s9_168, s9_169, s9_120, s9_163, (mm_zs 6), s9_47, s9_48, s9_22, s9_43, s9_170, a9_32) := ck_27s (by decide +kernel)
set_option maxHeartbeats 8000000 in
set_option maxRecDepth 100000 in
theorem p9_6_3 : e9_b 700 (eX9_goesDeeper 700 3) 1 0 4 2 1 3 2 4 (-1) 0 0 0 0 0 2 0 2 0 false 0 0 0 z9_limit s9_58 s9_84 g9_row s9_50 s9_168 s9_169 s9_120 s9_163 (mm_zs 120) (mm_zs 120) (mm_zs 6) s9_47 s9_48 s9_22 s9_43 s9_170 a9_32 = some (0, 0, 0, 0, 0, 2, 0, 2, false, 0, 0, 0, s9_58, s9_84, g9_row, s9_50, s9_171, s9_169, s9_120, s9_166, (mm_zs 6), s9_41, s9_42, s9_22, s9_43, s9_172, a9_32) := ck_27s (by decide +kernel)
set_option maxHeartbeats 8000000 in
set_option maxRecDepth 100000 in
theorem p9_6_4 : e9_b 700 (eX9_goesDeeper 700 3) 1 0 4 2 2 0 2 4 (-1) 0 0 0 0 0 2 0 2 0 false 0 0 0 z9_limit s9_58 s9_84 g9_row s9_50 s9_171 s9_169 s9_120 s9_166 (mm_zs 120) (mm_zs 120) (mm_zs 6) s9_41 s9_42 s9_22 s9_43 s9_172 a9_32 = some (0, 0, 0, 0, 0, 4, 0, 4, false, 0, 0, 0, s9_58, s9_59, g9_row, s9_60, s9_131, s9_173, s9_63, s9_81, (mm_zs 6), s9_77, s9_133, (mm_zs 32), s9_67, s9_174, a9_36) := ck_27s (by decide +kernel)
set_option maxHeartbeats 8000000 in
set_option maxRecDepth 100000 in
theorem p9_6_5 : e9_b 700 (eX9_goesDeeper 700 3) 1 0 4 2 2 1 2 4 (-1) 0 0 0 0 0 4 0 4 0 false 0 0 0 z9_limit s9_58 s9_59 g9_row s9_60 s9_131 s9_173 s9_63 s9_81 (mm_zs 120) (mm_zs 120) (mm_zs 6) s9_77 s9_133 (mm_zs 32) s9_67 s9_174 a9_36 = some (0, 0, 0, 0, 0, 4, 0, 4, false, 0, 0, 0, s9_58, s9_59, g9_row, s9_60, s9_135, s9_173, s9_63, s9_76, (mm_zs 6), s9_77, s9_137, (mm_zs 32), s9_67, s9_175, a9_40) := ck_27s (by decide +kernel)
