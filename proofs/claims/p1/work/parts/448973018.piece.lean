/-! line 2, way 1 -/
set_option maxHeartbeats 8000000 in
set_option maxRecDepth 100000 in
theorem p9_9_2 : e9_b 700 (eX9_goesDeeper 700 3) 1 0 2 2 1 2 2 4 (-1) 0 0 0 0 0 4 0 4 0 false 0 0 0 z9_limit s9_223 s9_224 s9_225 s9_226 s9_281 s9_228 s9_229 s9_282 (mm_zs 120) (mm_zs 120) (mm_zs 6) s9_231 s9_242 (mm_zs 32) s9_67 s9_283 a9_104 = some (0, 0, 0, 0, 0, 4, 0, 4, false, 0, 0, 0, s9_223, s9_224, s9_225, s9_226, s9_284, s9_239, s9_229, s9_285, (mm_zs 6), s9_241, s9_236, (mm_zs 32), s9_67, s9_286, a9_108) := ck_27s (by decide +kernel)
set_option maxHeartbeats 8000000 in
set_option maxRecDepth 100000 in
theorem p9_9_3 : e9_b 700 (eX9_goesDeeper 700 3) 1 0 2 2 1 3 2 4 (-1) 0 0 0 0 0 4 0 4 0 false 0 0 0 z9_limit s9_223 s9_224 s9_225 s9_226 s9_284 s9_239 s9_229 s9_285 (mm_zs 120) (mm_zs 120) (mm_zs 6) s9_241 s9_236 (mm_zs 32) s9_67 s9_286 a9_108 = some (0, 0, 0, 0, 0, 4, 0, 4, false, 0, 0, 0, s9_223, s9_224, s9_225, s9_226, s9_287, s9_239, s9_229, s9_288, (mm_zs 6), s9_241, s9_232, (mm_zs 32), s9_67, s9_289, a9_112) := ck_27s (by decide +kernel)
