/-! line 2, way 3 -/
set_option maxHeartbeats 8000000 in
set_option maxRecDepth 100000 in
theorem p9_11_2 : e9_b 700 (eX9_goesDeeper 700 3) 1 0 2 2 1 2 2 4 (-1) 0 0 0 0 0 4 0 4 0 false 0 0 0 z9_limit s9_223 s9_224 s9_225 s9_307 s9_244 s9_308 s9_229 s9_279 (mm_zs 120) (mm_zs 120) (mm_zs 6) s9_231 s9_246 (mm_zs 32) s9_67 s9_335 a9_168 = some (0, 0, 0, 0, 0, 4, 0, 4, false, 0, 0, 0, s9_223, s9_224, s9_225, s9_307, s9_227, s9_311, s9_229, s9_288, (mm_zs 6), s9_241, s9_232, (mm_zs 32), s9_67, s9_336, a9_172) := ck_27s (by decide +kernel)
set_option maxHeartbeats 8000000 in
set_option maxRecDepth 100000 in
theorem p9_11_3 : e9_b 700 (eX9_goesDeeper 700 3) 1 0 2 2 1 3 2 4 (-1) 0 0 0 0 0 4 0 4 0 false 0 0 0 z9_limit s9_223 s9_224 s9_225 s9_307 s9_227 s9_311 s9_229 s9_288 (mm_zs 120) (mm_zs 120) (mm_zs 6) s9_241 s9_232 (mm_zs 32) s9_67 s9_336 a9_172 = some (0, 0, 0, 0, 0, 4, 0, 4, false, 0, 0, 0, s9_223, s9_224, s9_225, s9_307, s9_234, s9_311, s9_229, s9_285, (mm_zs 6), s9_241, s9_236, (mm_zs 32), s9_67, s9_337, a9_176) := ck_27s (by decide +kernel)
