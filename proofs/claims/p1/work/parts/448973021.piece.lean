/-! line 2, way 2 -/
set_option maxHeartbeats 8000000 in
set_option maxRecDepth 100000 in
theorem p9_10_0 : e9_b 700 (eX9_goesDeeper 700 3) 1 0 2 2 1 0 2 4 (-1) 0 0 0 0 0 2 0 2 0 false 0 0 0 z9_limit s9_108 s9_248 s9_6 s9_302 s9_298 s9_303 s9_252 s9_304 (mm_zs 120) (mm_zs 120) (mm_zs 6) s9_219 s9_276 s9_305 s9_13 s9_306 a9_128 = some (0, 0, 0, 0, 0, 4, 0, 4, false, 0, 0, 0, s9_223, s9_224, s9_225, s9_307, s9_284, s9_308, s9_229, s9_235, (mm_zs 6), s9_231, s9_236, (mm_zs 32), s9_67, s9_309, a9_132) := ck_27s (by decide +kernel)
set_option maxHeartbeats 8000000 in
set_option maxRecDepth 100000 in
theorem p9_10_1 : e9_b 700 (eX9_goesDeeper 700 3) 1 0 2 2 1 1 2 4 (-1) 0 0 0 0 0 4 0 4 0 false 0 0 0 z9_limit s9_223 s9_224 s9_225 s9_307 s9_284 s9_308 s9_229 s9_235 (mm_zs 120) (mm_zs 120) (mm_zs 6) s9_231 s9_236 (mm_zs 32) s9_67 s9_309 a9_132 = some (0, 0, 0, 0, 0, 4, 0, 4, false, 0, 0, 0, s9_223, s9_224, s9_225, s9_307, s9_287, s9_308, s9_229, s9_230, (mm_zs 6), s9_231, s9_232, (mm_zs 32), s9_67, s9_310, a9_136) := ck_27s (by decide +kernel)
