/-! line 2, way 3 -/
set_option maxHeartbeats 8000000 in
set_option maxRecDepth 100000 in
theorem p9_11_4 : e9_b 700 (eX9_goesDeeper 700 3) 1 0 2 2 1 4 2 4 (-1) 0 0 0 0 0 4 0 4 0 false 0 0 0 z9_limit s9_223 s9_224 s9_225 s9_307 s9_234 s9_311 s9_229 s9_285 (mm_zs 120) (mm_zs 120) (mm_zs 6) s9_241 s9_236 (mm_zs 32) s9_67 s9_337 a9_176 = some (0, 0, 0, 0, 0, 4, 0, 4, false, 0, 0, 0, s9_108, s9_248, s9_6, s9_314, s9_331, s9_316, s9_252, s9_299, (mm_zs 6), s9_77, s9_327, (mm_zs 32), s9_67, s9_338, a9_180) := ck_27s (by decide +kernel)
set_option maxHeartbeats 8000000 in
set_option maxRecDepth 100000 in
theorem p9_11_5 : e9_b 700 (eX9_goesDeeper 700 3) 1 0 2 2 1 5 2 4 (-1) 0 0 0 0 0 4 0 4 0 false 0 0 0 z9_limit s9_108 s9_248 s9_6 s9_314 s9_331 s9_316 s9_252 s9_299 (mm_zs 120) (mm_zs 120) (mm_zs 6) s9_77 s9_327 (mm_zs 32) s9_67 s9_338 a9_180 = some (0, 0, 0, 0, 0, 4, 0, 4, false, 0, 0, 0, s9_108, s9_248, s9_6, s9_314, s9_339, s9_316, s9_252, s9_296, (mm_zs 6), s9_77, s9_324, (mm_zs 32), s9_67, s9_340, a9_184) := ck_27s (by decide +kernel)
