/-! line 2, way 0 -/
set_option maxHeartbeats 8000000 in
set_option maxRecDepth 100000 in
theorem p9_8_2 : e9_b 700 (eX9_goesDeeper 700 3) 1 0 2 2 1 2 2 4 (-1) 0 0 0 0 0 4 0 4 0 false 0 0 0 z9_limit s9_223 s9_224 s9_225 s9_226 s9_234 s9_228 s9_229 s9_235 (mm_zs 120) (mm_zs 120) (mm_zs 6) s9_231 s9_236 (mm_zs 32) s9_67 s9_237 a9_72 = some (0, 0, 0, 0, 0, 4, 0, 4, false, 0, 0, 0, s9_223, s9_224, s9_225, s9_226, s9_238, s9_239, s9_229, s9_240, (mm_zs 6), s9_241, s9_242, (mm_zs 32), s9_67, s9_243, a9_76) := ck_27s (by decide +kernel)
set_option maxHeartbeats 8000000 in
set_option maxRecDepth 100000 in
theorem p9_8_3 : e9_b 700 (eX9_goesDeeper 700 3) 1 0 2 2 1 3 2 4 (-1) 0 0 0 0 0 4 0 4 0 false 0 0 0 z9_limit s9_223 s9_224 s9_225 s9_226 s9_238 s9_239 s9_229 s9_240 (mm_zs 120) (mm_zs 120) (mm_zs 6) s9_241 s9_242 (mm_zs 32) s9_67 s9_243 a9_76 = some (0, 0, 0, 0, 0, 4, 0, 4, false, 0, 0, 0, s9_223, s9_224, s9_225, s9_226, s9_244, s9_239, s9_229, s9_245, (mm_zs 6), s9_241, s9_246, (mm_zs 32), s9_67, s9_247, a9_80) := ck_27s (by decide +kernel)
