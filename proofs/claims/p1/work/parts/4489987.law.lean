/-! the class with a law: what follows line 2, way 1 -/
set_option maxHeartbeats 8000000 in
set_option maxRecDepth 100000 in
theorem lc_c5 : fX5_copy 700 2 4 2 2 1 0 2 z5_rowOf s8_31 s8_32 s8_32 s8_33 s8_33 2 4 2 4 0 0 0 z5_rowOf z5_colOf (mm_zs 32) (mm_zs 32) (mm_zs 64) (mm_zs 64) = some (2, 4, 2, 4, 0, 0, 0, z5_rowOf, z5_colOf, (mm_zs 32), (mm_zs 32), (mm_zs 64), (mm_zs 64)) := ck_13s (by decide +kernel)
set_option maxHeartbeats 8000000 in
set_option maxRecDepth 100000 in
theorem lc_b5 : fX5_bendAndTurn 700 2 1 20 2 4 2 4 0 0 0 z5_rowOf z5_colOf (mm_zs 32) (mm_zs 32) (mm_zs 64) (mm_zs 64) s8_33 s8_4 0 0 (mm_zs 121) (mm_zs 121) = some (2, 2, 2, 1, 0, 2, z5_rowOf, s8_31, s8_40, s8_32, s8_33, s8_41, s8_41, s8_4, 0, (mm_zs 121)) := ck_16s (by decide +kernel)
set_option maxHeartbeats 8000000 in
set_option maxRecDepth 100000 in
theorem lc_s5 : fX4_seekv1l 700 20 true 0 10 3 (-1) 2 4 2 2 1 0 2 z5_rowOf s8_31 s8_40 s8_32 s8_33 s8_41 2 4 1 2 2 0 6 (mm_zs 32) s8_31 s8_34 s8_7 s8_8 s8_35 s8_36 s8_37 2 4 1 1 3 0 10 (mm_zs 32) (mm_zs 32) s8_38 s8_26 s8_14 s8_39 s8_16 s8_17 [21, 17, 13] [14, 20, 10] 0 0 (mm_zs 121) (mm_zs 121) = some (true, 0, 10, 3, 2, 4, 1, 2, 2, 0, 6, (mm_zs 32), s8_31, s8_42, s8_7, s8_8, s8_43, s8_36, s8_37, 2, 4, 1, 1, 3, 0, 10, (mm_zs 32), (mm_zs 32), s8_44, s8_26, s8_14, s8_45, s8_16, s8_17, [21, 17, 13], [14, 20, 10], 0, (mm_zs 121)) := ck_38s (by decide +kernel)
