/-! line 2, way 1 -/
set_option maxHeartbeats 8000000 in
set_option maxRecDepth 100000 in
theorem p9_9_4 : e9_b 700 (eX9_goesDeeper 700 3) 1 0 2 2 1 4 2 4 (-1) 0 0 0 0 0 4 0 4 0 false 0 0 0 z9_limit s9_223 s9_224 s9_225 s9_226 s9_287 s9_239 s9_229 s9_288 (mm_zs 120) (mm_zs 120) (mm_zs 6) s9_241 s9_232 (mm_zs 32) s9_67 s9_289 a9_112 = some (0, 0, 0, 0, 0, 4, 0, 4, false, 0, 0, 0, s9_108, s9_248, s9_6, s9_249, s9_273, s9_251, s9_252, s9_290, (mm_zs 6), s9_65, s9_267, (mm_zs 32), s9_67, s9_291, a9_116) := ck_27s (by decide +kernel)
set_option maxHeartbeats 8000000 in
set_option maxRecDepth 100000 in
theorem p9_9_5 : e9_b 700 (eX9_goesDeeper 700 3) 1 0 2 2 1 5 2 4 (-1) 0 0 0 0 0 4 0 4 0 false 0 0 0 z9_limit s9_108 s9_248 s9_6 s9_249 s9_273 s9_251 s9_252 s9_290 (mm_zs 120) (mm_zs 120) (mm_zs 6) s9_65 s9_267 (mm_zs 32) s9_67 s9_291 a9_116 = some (0, 0, 0, 0, 0, 4, 0, 4, false, 0, 0, 0, s9_108, s9_248, s9_6, s9_249, s9_292, s9_251, s9_252, s9_293, (mm_zs 6), s9_65, s9_263, (mm_zs 32), s9_67, s9_294, a9_120) := ck_27s (by decide +kernel)
