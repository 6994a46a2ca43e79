/-! line 1, way 7 -/
set_option maxHeartbeats 8000000 in
set_option maxRecDepth 100000 in
theorem p9_7_0 : e9_b 700 (eX9_goesDeeper 700 3) 1 0 4 2 1 0 2 4 (-1) 0 0 0 0 0 4 0 4 0 false 0 0 0 z9_limit s9_58 s9_84 g9_row s9_99 s9_188 s9_184 s9_88 s9_189 (mm_zs 120) (mm_zs 120) (mm_zs 6) s9_115 s9_31 (mm_zs 32) s9_32 s9_190 a9_48 = some (0, 0, 0, 0, 0, 2, 0, 2, false, 0, 0, 0, s9_58, s9_84, g9_row, s9_36, s9_191, s9_192, s9_120, s9_193, (mm_zs 6), s9_47, s9_42, s9_12, s9_43, s9_194, a9_48) := ck_27s (by decide +kernel)
set_option maxHeartbeats 8000000 in
set_option maxRecDepth 100000 in
theorem p9_7_1 : e9_b 700 (eX9_goesDeeper 700 3) 1 0 4 2 1 1 2 4 (-1) 0 0 0 0 0 2 0 2 0 false 0 0 0 z9_limit s9_58 s9_84 g9_row s9_36 s9_191 s9_192 s9_120 s9_193 (mm_zs 120) (mm_zs 120) (mm_zs 6) s9_47 s9_42 s9_12 s9_43 s9_194 a9_48 = some (0, 0, 0, 0, 0, 2, 0, 2, false, 0, 0, 0, s9_58, s9_84, g9_row, s9_36, s9_195, s9_192, s9_120, s9_196, (mm_zs 6), s9_41, s9_48, s9_12, s9_43, s9_197, a9_48) := ck_27s (by decide +kernel)
set_option maxHeartbeats 8000000 in
set_option maxRecDepth 100000 in
theorem p9_7_2 : e9_b 700 (eX9_goesDeeper 700 3) 1 0 4 2 1 2 2 4 (-1) 0 0 0 0 0 2 0 2 0 false 0 0 0 z9_limit s9_58 s9_84 g9_row s9_36 s9_195 s9_192 s9_120 s9_196 (mm_zs 120) (mm_zs 120) (mm_zs 6) s9_41 s9_48 s9_12 s9_43 s9_197 a9_48 = some (0, 0, 0, 0, 0, 2, 0, 2, false, 0, 0, 0, s9_58, s9_84, g9_row, s9_50, s9_198, s9_199, s9_120, s9_193, (mm_zs 6), s9_47, s9_53, s9_22, s9_43, s9_200, a9_48) := ck_27s (by decide +kernel)
set_option maxHeartbeats 8000000 in
set_option maxRecDepth 100000 in
theorem p9_7_3 : e9_b 700 (eX9_goesDeeper 700 3) 1 0 4 2 1 3 2 4 (-1) 0 0 0 0 0 2 0 2 0 false 0 0 0 z9_limit s9_58 s9_84 g9_row s9_50 s9_198 s9_199 s9_120 s9_193 (mm_zs 120) (mm_zs 120) (mm_zs 6) s9_47 s9_53 s9_22 s9_43 s9_200 a9_48 = some (0, 0, 0, 0, 0, 2, 0, 2, false, 0, 0, 0, s9_58, s9_84, g9_row, s9_50, s9_201, s9_199, s9_120, s9_196, (mm_zs 6), s9_41, s9_56, s9_22, s9_43, s9_202, a9_48) := ck_27s (by decide +kernel)
set_option maxHeartbeats 8000000 in
set_option maxRecDepth 100000 in
theorem p9_7_4 : e9_b 700 (eX9_goesDeeper 700 3) 1 0 4 2 2 0 2 4 (-1) 0 0 0 0 0 2 0 2 0 false 0 0 0 z9_limit s9_58 s9_84 g9_row s9_50 s9_201 s9_199 s9_120 s9_196 (mm_zs 120) (mm_zs 120) (mm_zs 6) s9_41 s9_56 s9_22 s9_43 s9_202 a9_48 = some (0, 0, 0, 0, 0, 4, 0, 4, false, 0, 0, 0, s9_58, s9_59, g9_row, s9_60, s9_61, s9_173, s9_63, s9_144, (mm_zs 6), s9_77, s9_66, (mm_zs 32), s9_67, s9_203, a9_52) := ck_27s (by decide +kernel)
set_option maxHeartbeats 8000000 in
set_option maxRecDepth 100000 in
theorem p9_7_5 : e9_b 700 (eX9_goesDeeper 700 3) 1 0 4 2 2 1 2 4 (-1) 0 0 0 0 0 4 0 4 0 false 0 0 0 z9_limit s9_58 s9_59 g9_row s9_60 s9_61 s9_173 s9_63 s9_144 (mm_zs 120) (mm_zs 120) (mm_zs 6) s9_77 s9_66 (mm_zs 32) s9_67 s9_203 a9_52 = some (0, 0, 0, 0, 0, 4, 0, 4, false, 0, 0, 0, s9_58, s9_59, g9_row, s9_60, s9_69, s9_173, s9_63, s9_140, (mm_zs 6), s9_77, s9_71, (mm_zs 32), s9_67, s9_204, a9_56) := ck_27s (by decide +kernel)
