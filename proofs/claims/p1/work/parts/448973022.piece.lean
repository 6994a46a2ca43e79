/-! line 2, way 2 -/
set_option maxHeartbeats 8000000 in
set_option maxRecDepth 100000 in
theorem p9_10_2 : e9_b 700 (eX9_goesDeeper 700 3) 1 0 2 2 1 2 2 4 (-1) 0 0 0 0 0 4 0 4 0 false 0 0 0 z9_limit s9_223 s9_224 s9_225 s9_307 s9_287 s9_308 s9_229 s9_230 (mm_zs 120) (mm_zs 120) (mm_zs 6) s9_231 s9_232 (mm_zs 32) s9_67 s9_310 a9_136 = some (0, 0, 0, 0, 0, 4, 0, 4, false, 0, 0, 0, s9_223, s9_224, s9_225, s9_307, s9_278, s9_311, s9_229, s9_245, (mm_zs 6), s9_241, s9_246, (mm_zs 32), s9_67, s9_312, a9_140) := ck_27s (by decide +kernel)
set_option maxHeartbeats 8000000 in
set_option maxRecDepth 100000 in
theorem p9_10_3 : e9_b 700 (eX9_goesDeeper 700 3) 1 0 2 2 1 3 2 4 (-1) 0 0 0 0 0 4 0 4 0 false 0 0 0 z9_limit s9_223 s9_224 s9_225 s9_307 s9_278 s9_311 s9_229 s9_245 (mm_zs 120) (mm_zs 120) (mm_zs 6) s9_241 s9_246 (mm_zs 32) s9_67 s9_312 a9_140 = some (0, 0, 0, 0, 0, 4, 0, 4, false, 0, 0, 0, s9_223, s9_224, s9_225, s9_307, s9_281, s9_311, s9_229, s9_240, (mm_zs 6), s9_241, s9_242, (mm_zs 32), s9_67, s9_313, a9_144) := ck_27s (by decide +kernel)
