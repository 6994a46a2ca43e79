/-! folds that lead nowhere -/
set_option maxHeartbeats 8000000 in
set_option maxRecDepth 100000 in
theorem p9_0 : e9_b 700 (eX9_goesDeeper 700 4) 0 0 0 1 1 0 2 4 (-1) 0 0 0 0 0 0 0 0 0 false 0 0 0 z9_limit g9_shapeRows g9_shapeColumns g9_row g9_column (mm_zs 192) (mm_zs 192) (mm_zs 384) (mm_zs 384) (mm_zs 120) (mm_zs 120) (mm_zs 6) (mm_zs 64) (mm_zs 32) (mm_zs 32) (mm_zs 64) (mm_zs 3) [] = some (0, 0, 0, 0, 0, 2, 0, 2, false, 0, 0, 0, s9_4, s9_5, s9_6, s9_7, s9_8, s9_8, s9_9, s9_9, (mm_zs 6), s9_10, s9_11, s9_12, s9_13, s9_14, []) := ck_27s (by decide +kernel)
set_option maxHeartbeats 8000000 in
set_option maxRecDepth 100000 in
theorem p9_1 : e9_b 700 (eX9_goesDeeper 700 4) 0 0 0 1 1 1 2 4 (-1) 0 0 0 0 0 2 0 2 0 false 0 0 0 z9_limit s9_4 s9_5 s9_6 s9_7 s9_8 s9_8 s9_9 s9_9 (mm_zs 120) (mm_zs 120) (mm_zs 6) s9_10 s9_11 s9_12 s9_13 s9_14 [] = some (0, 0, 0, 0, 0, 2, 0, 2, false, 0, 0, 0, s9_4, s9_5, s9_6, s9_7, s9_15, s9_8, s9_9, s9_16, (mm_zs 6), s9_17, s9_18, s9_12, s9_13, s9_19, []) := ck_27s (by decide +kernel)
set_option maxHeartbeats 8000000 in
set_option maxRecDepth 100000 in
theorem p9_2 : e9_b 700 (eX9_goesDeeper 700 4) 0 0 0 1 1 2 2 4 (-1) 0 0 0 0 0 2 0 2 0 false 0 0 0 z9_limit s9_4 s9_5 s9_6 s9_7 s9_15 s9_8 s9_9 s9_16 (mm_zs 120) (mm_zs 120) (mm_zs 6) s9_17 s9_18 s9_12 s9_13 s9_19 [] = some (0, 0, 0, 0, 0, 2, 0, 2, false, 0, 0, 0, s9_4, s9_5, s9_6, s9_20, s9_15, s9_21, s9_9, s9_9, (mm_zs 6), s9_10, s9_18, s9_22, s9_13, s9_23, []) := ck_27s (by decide +kernel)
set_option maxHeartbeats 8000000 in
set_option maxRecDepth 100000 in
theorem p9_3 : e9_b 700 (eX9_goesDeeper 700 4) 0 0 0 1 1 3 2 4 (-1) 0 0 0 0 0 2 0 2 0 false 0 0 0 z9_limit s9_4 s9_5 s9_6 s9_20 s9_15 s9_21 s9_9 s9_9 (mm_zs 120) (mm_zs 120) (mm_zs 6) s9_10 s9_18 s9_22 s9_13 s9_23 [] = some (0, 0, 0, 0, 0, 2, 0, 2, false, 0, 0, 0, s9_4, s9_5, s9_6, s9_20, s9_8, s9_21, s9_9, s9_16, (mm_zs 6), s9_17, s9_11, s9_22, s9_13, s9_24, []) := ck_27s (by decide +kernel)
set_option maxHeartbeats 8000000 in
set_option maxRecDepth 100000 in
theorem p9_12 : e9_b 700 (eX9_goesDeeper 700 4) 0 0 0 1 3 0 2 4 (-1) 0 0 0 0 0 4 0 4 0 false 0 0 0 z9_limit s9_108 s9_248 s9_6 s9_314 s9_343 s9_323 s9_252 s9_290 (mm_zs 120) (mm_zs 120) (mm_zs 6) s9_65 s9_317 (mm_zs 32) s9_67 s9_333 a9_192 = some (0, 0, 0, 0, 0, 2, 0, 2, false, 0, 0, 0, s9_108, s9_344, s9_6, s9_345, s9_346, s9_347, s9_348, s9_349, (mm_zs 6), s9_350, s9_351, s9_92, s9_13, s9_352, a9_192) := ck_27s (by decide +kernel)
set_option maxHeartbeats 8000000 in
set_option maxRecDepth 100000 in
theorem p9_13 : e9_b 700 (eX9_goesDeeper 700 4) 0 0 0 1 3 1 2 4 (-1) 0 0 0 0 0 2 0 2 0 false 0 0 0 z9_limit s9_108 s9_344 s9_6 s9_345 s9_346 s9_347 s9_348 s9_349 (mm_zs 120) (mm_zs 120) (mm_zs 6) s9_350 s9_351 s9_92 s9_13 s9_352 a9_192 = some (0, 0, 0, 0, 0, 2, 0, 2, false, 0, 0, 0, s9_108, s9_344, s9_6, s9_345, s9_353, s9_347, s9_348, s9_354, (mm_zs 6), s9_355, s9_356, s9_92, s9_13, s9_357, a9_192) := ck_27s (by decide +kernel)
set_option maxHeartbeats 8000000 in
set_option maxRecDepth 100000 in
theorem p9_14 : e9_b 700 (eX9_goesDeeper 700 4) 0 0 0 1 3 2 2 4 (-1) 0 0 0 0 0 2 0 2 0 false 0 0 0 z9_limit s9_108 s9_344 s9_6 s9_345 s9_353 s9_347 s9_348 s9_354 (mm_zs 120) (mm_zs 120) (mm_zs 6) s9_355 s9_356 s9_92 s9_13 s9_357 a9_192 = some (0, 0, 0, 0, 0, 2, 0, 2, false, 0, 0, 0, s9_108, s9_344, s9_6, s9_358, s9_353, s9_359, s9_348, s9_349, (mm_zs 6), s9_350, s9_356, s9_103, s9_13, s9_360, a9_192) := ck_27s (by decide +kernel)
set_option maxHeartbeats 8000000 in
set_option maxRecDepth 100000 in
theorem p9_15 : e9_b 700 (eX9_goesDeeper 700 4) 0 0 0 1 3 3 2 4 (-1) 0 0 0 0 0 2 0 2 0 false 0 0 0 z9_limit s9_108 s9_344 s9_6 s9_358 s9_353 s9_359 s9_348 s9_349 (mm_zs 120) (mm_zs 120) (mm_zs 6) s9_350 s9_356 s9_103 s9_13 s9_360 a9_192 = some (0, 0, 0, 0, 0, 2, 0, 2, false, 0, 0, 0, s9_108, s9_344, s9_6, s9_358, s9_346, s9_359, s9_348, s9_354, (mm_zs 6), s9_355, s9_351, s9_103, s9_13, s9_361, a9_192) := ck_27s (by decide +kernel)
