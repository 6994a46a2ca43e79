/-! the class with a law: what follows line 1, way 7 -/
set_option maxHeartbeats 8000000 in
set_option maxRecDepth 100000 in
theorem lc_c3 : fX5_copy 700 2 4 1 4 1 0 4 (mm_zs 32) z5_colOf z5_rowOf z5_rowOf s8_3 s8_3 2 4 2 4 0 0 0 z5_rowOf z5_colOf (mm_zs 32) (mm_zs 32) (mm_zs 64) (mm_zs 64) = some (2, 4, 2, 4, 0, 0, 0, z5_rowOf, z5_colOf, (mm_zs 32), (mm_zs 32), (mm_zs 64), (mm_zs 64)) := ck_13s (by decide +kernel)
set_option maxHeartbeats 8000000 in
set_option maxRecDepth 100000 in
theorem lc_b3 : fX5_bendAndTurn 700 1 7 20 2 4 2 4 0 0 0 z5_rowOf z5_colOf (mm_zs 32) (mm_zs 32) (mm_zs 64) (mm_zs 64) s8_3 s8_4 0 0 (mm_zs 121) (mm_zs 121) = some (4, 1, 4, 1, 0, 4, (mm_zs 32), z5_colOf, s8_2, z5_rowOf, s8_3, s8_18, s8_18, s8_4, 0, (mm_zs 121)) := ck_16s (by decide +kernel)
set_option maxHeartbeats 8000000 in
set_option maxRecDepth 100000 in
theorem lc_s3 : fX4_seekv1l 700 20 true 0 10 3 (-1) 2 4 1 4 1 0 4 (mm_zs 32) z5_colOf s8_2 z5_rowOf s8_3 s8_18 2 4 1 2 2 0 6 (mm_zs 32) s8_5 s8_19 s8_23 s8_8 s8_24 s8_25 s8_11 2 4 1 1 3 0 10 (mm_zs 32) (mm_zs 32) s8_21 s8_26 s8_14 s8_27 s8_28 s8_17 [17, 23, 13] [14, 20, 10] 0 0 (mm_zs 121) (mm_zs 121) = some (true, 0, 10, 3, 2, 4, 1, 2, 2, 0, 6, (mm_zs 32), s8_5, s8_6, s8_23, s8_8, s8_29, s8_25, s8_11, 2, 4, 1, 1, 3, 0, 10, (mm_zs 32), (mm_zs 32), s8_12, s8_26, s8_14, s8_30, s8_28, s8_17, [17, 23, 13], [14, 20, 10], 0, (mm_zs 121)) := ck_38s (by decide +kernel)
