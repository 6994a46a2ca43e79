/-! the search of the class, least wrong -/
set_option maxHeartbeats 8000000 in
set_option maxRecDepth 100000 in
theorem cs_r : cs_18 (fX4_seekLeastWrong 700 20 false 0 0 0 0 2 4 2 4 0 0 0 z5_rowOf z5_colOf (mm_zs 32) (mm_zs 32) (mm_zs 64) (mm_zs 64) 2 4 2 4 0 0 0 z5_rowOf z5_colOf (mm_zs 32) (mm_zs 32) (mm_zs 64) (mm_zs 64) (mm_zs 64) (mm_zs 32) 2 4 2 4 0 0 0 z5_rowOf z5_colOf (mm_zs 32) (mm_zs 32) (mm_zs 64) (mm_zs 64) (mm_zs 64) (mm_zs 32) 2 4 2 4 0 0 0 z5_rowOf z5_colOf (mm_zs 32) (mm_zs 32) (mm_zs 64) (mm_zs 64) (mm_zs 64) (mm_zs 32) (mm_zs 3) (mm_zs 3) 2 4 2 4 0 0 0 z5_rowOf z5_colOf (mm_zs 32) (mm_zs 32) (mm_zs 64) (mm_zs 64) 0 0 (mm_zs 121) (mm_zs 121)) 0 10 14 20 10 = true := by decide +kernel
