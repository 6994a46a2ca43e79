/-! line 2, way 2 -/
set_option maxHeartbeats 8000000 in
set_option maxRecDepth 100000 in
theorem p9_10_4 : e9_b 700 (eX9_goesDeeper 700 3) 1 0 2 2 1 4 2 4 (-1) 0 0 0 0 0 4 0 4 0 false 0 0 0 z9_limit s9_223 s9_224 s9_225 s9_307 s9_281 s9_311 s9_229 s9_240 (mm_zs 120) (mm_zs 120) (mm_zs 6) s9_241 s9_242 (mm_zs 32) s9_67 s9_313 a9_144 = some (0, 0, 0, 0, 0, 4, 0, 4, false, 0, 0, 0, s9_108, s9_248, s9_6, s9_314, s9_315, s9_316, s9_252, s9_266, (mm_zs 6), s9_77, s9_317, (mm_zs 32), s9_67, s9_318, a9_148) := ck_27s (by decide +kernel)
set_option maxHeartbeats 8000000 in
set_option maxRecDepth 100000 in
theorem p9_10_5 : e9_b 700 (eX9_goesDeeper 700 3) 1 0 2 2 1 5 2 4 (-1) 0 0 0 0 0 4 0 4 0 false 0 0 0 z9_limit s9_108 s9_248 s9_6 s9_314 s9_315 s9_316 s9_252 s9_266 (mm_zs 120) (mm_zs 120) (mm_zs 6) s9_77 s9_317 (mm_zs 32) s9_67 s9_318 a9_148 = some (0, 0, 0, 0, 0, 4, 0, 4, false, 0, 0, 0, s9_108, s9_248, s9_6, s9_314, s9_319, s9_316, s9_252, s9_262, (mm_zs 6), s9_77, s9_320, (mm_zs 32), s9_67, s9_321, a9_152) := ck_27s (by decide +kernel)
