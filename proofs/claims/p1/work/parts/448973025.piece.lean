/-! line 2, way 3 -/
set_option maxHeartbeats 8000000 in
set_option maxRecDepth 100000 in
theorem p9_11_0 : e9_b 700 (eX9_goesDeeper 700 3) 1 0 2 2 1 0 2 4 (-1) 0 0 0 0 0 2 0 2 0 false 0 0 0 z9_limit s9_108 s9_248 s9_6 s9_314 s9_331 s9_323 s9_252 s9_332 (mm_zs 120) (mm_zs 120) (mm_zs 6) s9_275 s9_220 s9_305 s9_13 s9_333 a9_160 = some (0, 0, 0, 0, 0, 4, 0, 4, false, 0, 0, 0, s9_223, s9_224, s9_225, s9_307, s9_238, s9_308, s9_229, s9_282, (mm_zs 6), s9_231, s9_242, (mm_zs 32), s9_67, s9_334, a9_164) := ck_27s (by decide +kernel)
set_option maxHeartbeats 8000000 in
set_option maxRecDepth 100000 in
theorem p9_11_1 : e9_b 700 (eX9_goesDeeper 700 3) 1 0 2 2 1 1 2 4 (-1) 0 0 0 0 0 4 0 4 0 false 0 0 0 z9_limit s9_223 s9_224 s9_225 s9_307 s9_238 s9_308 s9_229 s9_282 (mm_zs 120) (mm_zs 120) (mm_zs 6) s9_231 s9_242 (mm_zs 32) s9_67 s9_334 a9_164 = some (0, 0, 0, 0, 0, 4, 0, 4, false, 0, 0, 0, s9_223, s9_224, s9_225, s9_307, s9_244, s9_308, s9_229, s9_279, (mm_zs 6), s9_231, s9_246, (mm_zs 32), s9_67, s9_335, a9_168) := ck_27s (by decide +kernel)
