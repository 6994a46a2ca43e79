/-! line 2, way 0 -/
set_option maxHeartbeats 8000000 in
set_option maxRecDepth 100000 in
theorem p9_8_4 : e9_b 700 (eX9_goesDeeper 700 3) 1 0 2 2 1 4 2 4 (-1) 0 0 0 0 0 4 0 4 0 false 0 0 0 z9_limit s9_223 s9_224 s9_225 s9_226 s9_244 s9_239 s9_229 s9_245 (mm_zs 120) (mm_zs 120) (mm_zs 6) s9_241 s9_246 (mm_zs 32) s9_67 s9_247 a9_80 = some (0, 0, 0, 0, 0, 4, 0, 4, false, 0, 0, 0, s9_108, s9_248, s9_6, s9_249, s9_250, s9_251, s9_252, s9_253, (mm_zs 6), s9_65, s9_254, (mm_zs 32), s9_67, s9_255, a9_84) := ck_27s (by decide +kernel)
set_option maxHeartbeats 8000000 in
set_option maxRecDepth 100000 in
theorem p9_8_5 : e9_b 700 (eX9_goesDeeper 700 3) 1 0 2 2 1 5 2 4 (-1) 0 0 0 0 0 4 0 4 0 false 0 0 0 z9_limit s9_108 s9_248 s9_6 s9_249 s9_250 s9_251 s9_252 s9_253 (mm_zs 120) (mm_zs 120) (mm_zs 6) s9_65 s9_254 (mm_zs 32) s9_67 s9_255 a9_84 = some (0, 0, 0, 0, 0, 4, 0, 4, false, 0, 0, 0, s9_108, s9_248, s9_6, s9_249, s9_256, s9_251, s9_252, s9_257, (mm_zs 6), s9_65, s9_258, (mm_zs 32), s9_67, s9_259, a9_88) := ck_27s (by decide +kernel)
