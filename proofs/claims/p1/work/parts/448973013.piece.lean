/-! line 2, way 0 -/
set_option maxHeartbeats 8000000 in
set_option maxRecDepth 100000 in
theorem p9_8_0 : e9_b 700 (eX9_goesDeeper 700 3) 1 0 2 2 1 0 2 4 (-1) 0 0 0 0 0 2 0 2 0 false 0 0 0 z9_limit s9_108 s9_213 s9_6 s9_214 s9_215 s9_216 s9_217 s9_218 (mm_zs 120) (mm_zs 120) (mm_zs 6) s9_219 s9_220 s9_221 s9_13 s9_222 a9_64 = some (0, 0, 0, 0, 0, 4, 0, 4, false, 0, 0, 0, s9_223, s9_224, s9_225, s9_226, s9_227, s9_228, s9_229, s9_230, (mm_zs 6), s9_231, s9_232, (mm_zs 32), s9_67, s9_233, a9_68) := ck_27s (by decide +kernel)
set_option maxHeartbeats 8000000 in
set_option maxRecDepth 100000 in
theorem p9_8_1 : e9_b 700 (eX9_goesDeeper 700 3) 1 0 2 2 1 1 2 4 (-1) 0 0 0 0 0 4 0 4 0 false 0 0 0 z9_limit s9_223 s9_224 s9_225 s9_226 s9_227 s9_228 s9_229 s9_230 (mm_zs 120) (mm_zs 120) (mm_zs 6) s9_231 s9_232 (mm_zs 32) s9_67 s9_233 a9_68 = some (0, 0, 0, 0, 0, 4, 0, 4, false, 0, 0, 0, s9_223, s9_224, s9_225, s9_226, s9_234, s9_228, s9_229, s9_235, (mm_zs 6), s9_231, s9_236, (mm_zs 32), s9_67, s9_237, a9_72) := ck_27s (by decide +kernel)
