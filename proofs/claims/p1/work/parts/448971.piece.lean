/-! folds that lead nowhere -/
set_option maxHeartbeats 8000000 in
set_option maxRecDepth 100000 in
theorem p9_0 : e9_b 700 (eX9_goesDeeper 700 4) 0 0 0 1 1 0 2 4 (-1) 0 0 0 0 0 0 0 0 0 false 0 0 0 z9_limit g9_shapeRows g9_shapeColumns g9_row g9_column (mm_zs 192) (mm_zs 192) (mm_zs 384) (mm_zs 384) (mm_zs 120) (mm_zs 120) (mm_zs 6) (mm_zs 64) (mm_zs 32) (mm_zs 32) (mm_zs 64) (mm_zs 3) [] = some (0, 0, 0, 0, 0, 2, 0, 2, false, 0, 0, 0, s9_4, s9_5, s9_6, s9_7, s9_8, s9_8, s9_9, s9_9, (mm_zs 6), s9_10, s9_11, s9_12, s9_13, s9_14, []) := ck_27s (by decide +kernel)
set_option maxHeartbeats 8000000 in
set_option maxRecDepth 100000 in
theorem p9_1 : e9_b 700 (eX9_goesDeeper 700 4) 0 0 0 1 1 1 2 4 (-1) 0 0 0 0 0 2 0 2 0 false 0 0 0 z9_limit s9_4 s9_5 s9_6 s9_7 s9_8 s9_8 s9_9 s9_9 (mm_zs 120) (mm_zs 120) (mm_zs 6) s9_10 s9_11 s9_12 s9_13 s9_14 [] = some (0, 0, 0, 0, 0, 2, 0, 2, false, 0, 0, 0, s9_4, s9_5, s9_6, s9_7, s9_15, s9_8, s9_9, s9_16, (mm_zs 6), s9_17, s9_18, s9_12, s9_13, s9_19, []) := ck_27s (by decide +kernel)
set_option maxHeartbeats 8000000 in
set_option maxRecDepth 100000 in
theorem p9_2 : e9_b 700 (eX9_goesDeeper 700 4) 0 0 0 1 1 2 2 4 (-1) 0 0 0 0 0 2 0 2 0 false 0 0 0 z9_limit s9_4 s9_5 s9_6 s9_7 s9_15 s9_8 s9_9 s9_16 (mm_zs 120) (mm_zs 120) (mm_zs 6) s9_17 s9_18 s9_12 s9_13 s9_19 [] = some (0, 0, 0, 0, 0, 2, 0, 2, false, 0, 0, 0, s9_4, s9_5, s9_6, s9_20, s9_15, s9_21, s9_9, s9_9, (mm_zs 6), s9_10, s9_18, s9_22, s9_13, s9_23, []) := ck_27s (by decide +kernel)
set_option maxHeartbeats 8000000 in
set_option maxRecDepth 100000 in
theorem p9_3 : e9_b 700 (eX9_goesDeeper 700 4) 0 0 0 1 1 3 2 4 (-1) 0 0 0 0 0 2 0 2 0 false 0 0 0 z9_limit s9_4 s9_5 s9_6 s9_20 s9_15 s9_21 s9_9 s9_9 (mm_zs 120) (mm_zs 120) (mm_zs 6) s9_10 s9_18 s9_22 s9_13 s9_23 [] = some (0, 0, 0, 0, 0, 2, 0, 2, false, 0, 0, 0, s9_4, s9_5, s9_6, s9_20, s9_8, s9_21, s9_9, s9_16, (mm_zs 6), s9_17, s9_11, s9_22, s9_13, s9_24, []) := ck_27s (by decide +kernel)
set_option maxHeartbeats 8000000 in
set_option maxRecDepth 100000 in
theorem p9_12 : e9_b 700 (eX9_goesDeeper 700 4) 0 0 0 1 3 0 2 4 (-1) 0 0 0 0 0 4 0 4 0 false 0 0 0 z9_limit s9_47 s9_48 s9_6 s9_62 s9_69 s9_64 s9_52 s9_70 (mm_zs 120) (mm_zs 120) (mm_zs 6) s9_66 s9_71 (mm_zs 32) s9_56 s9_72 a9_12 = some (0, 0, 0, 0, 0, 2, 0, 2, false, 0, 0, 0, s9_47, s9_73, s9_6, s9_74, s9_75, s9_76, s9_77, s9_78, (mm_zs 6), s9_79, s9_80, s9_81, s9_13, s9_82, a9_12) := ck_27s (by decide +kernel)
set_option maxHeartbeats 8000000 in
set_option maxRecDepth 100000 in
theorem p9_13 : e9_b 700 (eX9_goesDeeper 700 4) 0 0 0 1 3 1 2 4 (-1) 0 0 0 0 0 2 0 2 0 false 0 0 0 z9_limit s9_47 s9_73 s9_6 s9_74 s9_75 s9_76 s9_77 s9_78 (mm_zs 120) (mm_zs 120) (mm_zs 6) s9_79 s9_80 s9_81 s9_13 s9_82 a9_12 = some (0, 0, 0, 0, 0, 2, 0, 2, false, 0, 0, 0, s9_47, s9_73, s9_6, s9_74, s9_83, s9_76, s9_77, s9_84, (mm_zs 6), s9_85, s9_86, s9_81, s9_13, s9_87, a9_12) := ck_27s (by decide +kernel)
set_option maxHeartbeats 8000000 in
set_option maxRecDepth 100000 in
theorem p9_14 : e9_b 700 (eX9_goesDeeper 700 4) 0 0 0 1 3 2 2 4 (-1) 0 0 0 0 0 2 0 2 0 false 0 0 0 z9_limit s9_47 s9_73 s9_6 s9_74 s9_83 s9_76 s9_77 s9_84 (mm_zs 120) (mm_zs 120) (mm_zs 6) s9_85 s9_86 s9_81 s9_13 s9_87 a9_12 = some (0, 0, 0, 0, 0, 2, 0, 2, false, 0, 0, 0, s9_47, s9_73, s9_6, s9_88, s9_83, s9_89, s9_77, s9_78, (mm_zs 6), s9_79, s9_86, s9_34, s9_13, s9_90, a9_12) := ck_27s (by decide +kernel)
set_option maxHeartbeats 8000000 in
set_option maxRecDepth 100000 in
theorem p9_15 : e9_b 700 (eX9_goesDeeper 700 4) 0 0 0 1 3 3 2 4 (-1) 0 0 0 0 0 2 0 2 0 false 0 0 0 z9_limit s9_47 s9_73 s9_6 s9_88 s9_83 s9_89 s9_77 s9_78 (mm_zs 120) (mm_zs 120) (mm_zs 6) s9_79 s9_86 s9_34 s9_13 s9_90 a9_12 = some (0, 0, 0, 0, 0, 2, 0, 2, false, 0, 0, 0, s9_47, s9_73, s9_6, s9_88, s9_75, s9_89, s9_77, s9_84, (mm_zs 6), s9_85, s9_80, s9_34, s9_13, s9_91, a9_12) := ck_27s (by decide +kernel)
