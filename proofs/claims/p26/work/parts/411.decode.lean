/-! The law: its instructions -/
theorem nb_dL_law_0 : bls_w cL_law [(0, [187, 0, 7]), (3, [89]), (4, [183, 0, 9]), (7, [76]), (8, [187, 0, 10]), (11, [89]), (12, [183, 0, 12]), (15, [77]), (16, [3]), (17, [62]), (18, [29]), (19, [42])] := bls_of (by decide +kernel)
set_option maxRecDepth 100000 in
theorem dL_law_0 : decode cL_law 0 = .ok (.new 7, 3) := (op_187 nb_dL_law_0.1).trans rfl
theorem dL_law_3 : decode cL_law 3 = .ok (.dup, 1) := op_89 nb_dL_law_0.2.1
set_option maxRecDepth 100000 in
theorem dL_law_4 : decode cL_law 4 = .ok (.invokespecial 9, 3) := (op_183 nb_dL_law_0.2.2.1).trans rfl
theorem dL_law_7 : decode cL_law 7 = .ok (.astore_n 1, 1) := op_76 nb_dL_law_0.2.2.2.1
set_option maxRecDepth 100000 in
theorem dL_law_8 : decode cL_law 8 = .ok (.new 10, 3) := (op_187 nb_dL_law_0.2.2.2.2.1).trans rfl
theorem dL_law_11 : decode cL_law 11 = .ok (.dup, 1) := op_89 nb_dL_law_0.2.2.2.2.2.1
set_option maxRecDepth 100000 in
theorem dL_law_12 : decode cL_law 12 = .ok (.invokespecial 12, 3) := (op_183 nb_dL_law_0.2.2.2.2.2.2.1).trans rfl
theorem dL_law_15 : decode cL_law 15 = .ok (.astore_n 2, 1) := op_77 nb_dL_law_0.2.2.2.2.2.2.2.1
theorem dL_law_16 : decode cL_law 16 = .ok (.iconst 0, 1) := op_3 nb_dL_law_0.2.2.2.2.2.2.2.2.1
theorem dL_law_17 : decode cL_law 17 = .ok (.istore_n 3, 1) := op_62 nb_dL_law_0.2.2.2.2.2.2.2.2.2.1
theorem dL_law_18 : decode cL_law 18 = .ok (.iload_n 3, 1) := op_29 nb_dL_law_0.2.2.2.2.2.2.2.2.2.2.1
theorem dL_law_19 : decode cL_law 19 = .ok (.aload_n 0, 1) := op_42 nb_dL_law_0.2.2.2.2.2.2.2.2.2.2.2.1
theorem dL_law_33 : decode cL_law 33 = .ok (.tableswitch 1358 0 38 #[171, 194, 217, 240, 253, 286, 299, 332, 355, 388, 421, 444, 477, 520, 543, 576, 609, 642, 675, 698, 741, 774, 807, 840, 883, 916, 929, 942, 955, 968, 991, 1034, 1057, 1090, 1133, 1206, 1239, 1302, 1335], 171) := by decide +kernel
theorem nb_dL_law_20 : bls_w cL_law [(20, [190]), (21, [16, 6]), (23, [100]), (24, [163, 5, 93]), (27, [42]), (28, [29]), (29, [46]), (30, [16, 63]), (32, [126]), (204, [43]), (205, [42]), (206, [29])] := bls_of (by decide +kernel)
theorem dL_law_20 : decode cL_law 20 = .ok (.arraylength, 1) := op_190 nb_dL_law_20.1
set_option maxRecDepth 100000 in
theorem dL_law_21 : decode cL_law 21 = .ok (.bipush 6, 2) := (op_16 nb_dL_law_20.2.1).trans rfl
theorem dL_law_23 : decode cL_law 23 = .ok (.isub, 1) := op_100 nb_dL_law_20.2.2.1
set_option maxRecDepth 100000 in
theorem dL_law_24 : decode cL_law 24 = .ok (.if_icmp .gt 1373, 3) := (op_163 nb_dL_law_20.2.2.2.1).trans rfl
theorem dL_law_27 : decode cL_law 27 = .ok (.aload_n 0, 1) := op_42 nb_dL_law_20.2.2.2.2.1
theorem dL_law_28 : decode cL_law 28 = .ok (.iload_n 3, 1) := op_29 nb_dL_law_20.2.2.2.2.2.1
theorem dL_law_29 : decode cL_law 29 = .ok (.iaload, 1) := op_46 nb_dL_law_20.2.2.2.2.2.2.1
set_option maxRecDepth 100000 in
theorem dL_law_30 : decode cL_law 30 = .ok (.bipush 63, 2) := (op_16 nb_dL_law_20.2.2.2.2.2.2.2.1).trans rfl
theorem dL_law_32 : decode cL_law 32 = .ok (.iand, 1) := op_126 nb_dL_law_20.2.2.2.2.2.2.2.2.1
theorem dL_law_204 : decode cL_law 204 = .ok (.aload_n 1, 1) := op_43 nb_dL_law_20.2.2.2.2.2.2.2.2.2.1
theorem dL_law_205 : decode cL_law 205 = .ok (.aload_n 0, 1) := op_42 nb_dL_law_20.2.2.2.2.2.2.2.2.2.2.1
theorem dL_law_206 : decode cL_law 206 = .ok (.iload_n 3, 1) := op_29 nb_dL_law_20.2.2.2.2.2.2.2.2.2.2.2.1
theorem nb_dL_law_207 : bls_w cL_law [(207, [4]), (208, [96]), (209, [46]), (210, [182, 0, 13]), (213, [87]), (214, [44]), (215, [42]), (216, [29]), (217, [4]), (218, [96]), (219, [46]), (220, [182, 0, 17])] := bls_of (by decide +kernel)
theorem dL_law_207 : decode cL_law 207 = .ok (.iconst 1, 1) := op_4 nb_dL_law_207.1
theorem dL_law_208 : decode cL_law 208 = .ok (.iadd, 1) := op_96 nb_dL_law_207.2.1
theorem dL_law_209 : decode cL_law 209 = .ok (.iaload, 1) := op_46 nb_dL_law_207.2.2.1
set_option maxRecDepth 100000 in
theorem dL_law_210 : decode cL_law 210 = .ok (.invokevirtual 13, 3) := (op_182 nb_dL_law_207.2.2.2.1).trans rfl
theorem dL_law_213 : decode cL_law 213 = .ok (.pop, 1) := op_87 nb_dL_law_207.2.2.2.2.1
theorem dL_law_214 : decode cL_law 214 = .ok (.aload_n 2, 1) := op_44 nb_dL_law_207.2.2.2.2.2.1
theorem dL_law_215 : decode cL_law 215 = .ok (.aload_n 0, 1) := op_42 nb_dL_law_207.2.2.2.2.2.2.1
theorem dL_law_216 : decode cL_law 216 = .ok (.iload_n 3, 1) := op_29 nb_dL_law_207.2.2.2.2.2.2.2.1
theorem dL_law_217 : decode cL_law 217 = .ok (.iconst 1, 1) := op_4 nb_dL_law_207.2.2.2.2.2.2.2.2.1
theorem dL_law_218 : decode cL_law 218 = .ok (.iadd, 1) := op_96 nb_dL_law_207.2.2.2.2.2.2.2.2.2.1
theorem dL_law_219 : decode cL_law 219 = .ok (.iaload, 1) := op_46 nb_dL_law_207.2.2.2.2.2.2.2.2.2.2.1
set_option maxRecDepth 100000 in
theorem dL_law_220 : decode cL_law 220 = .ok (.invokevirtual 17, 3) := (op_182 nb_dL_law_207.2.2.2.2.2.2.2.2.2.2.2.1).trans rfl
theorem nb_dL_law_223 : bls_w cL_law [(223, [87]), (224, [167, 4, 143]), (227, [43]), (228, [42]), (229, [29]), (230, [4]), (231, [96]), (232, [46]), (233, [182, 0, 18]), (236, [87]), (237, [44]), (238, [42])] := bls_of (by decide +kernel)
theorem dL_law_223 : decode cL_law 223 = .ok (.pop, 1) := op_87 nb_dL_law_223.1
set_option maxRecDepth 100000 in
theorem dL_law_224 : decode cL_law 224 = .ok (.goto 1167, 3) := (op_167 nb_dL_law_223.2.1).trans rfl
theorem dL_law_227 : decode cL_law 227 = .ok (.aload_n 1, 1) := op_43 nb_dL_law_223.2.2.1
theorem dL_law_228 : decode cL_law 228 = .ok (.aload_n 0, 1) := op_42 nb_dL_law_223.2.2.2.1
theorem dL_law_229 : decode cL_law 229 = .ok (.iload_n 3, 1) := op_29 nb_dL_law_223.2.2.2.2.1
theorem dL_law_230 : decode cL_law 230 = .ok (.iconst 1, 1) := op_4 nb_dL_law_223.2.2.2.2.2.1
theorem dL_law_231 : decode cL_law 231 = .ok (.iadd, 1) := op_96 nb_dL_law_223.2.2.2.2.2.2.1
theorem dL_law_232 : decode cL_law 232 = .ok (.iaload, 1) := op_46 nb_dL_law_223.2.2.2.2.2.2.2.1
set_option maxRecDepth 100000 in
theorem dL_law_233 : decode cL_law 233 = .ok (.invokevirtual 18, 3) := (op_182 nb_dL_law_223.2.2.2.2.2.2.2.2.1).trans rfl
theorem dL_law_236 : decode cL_law 236 = .ok (.pop, 1) := op_87 nb_dL_law_223.2.2.2.2.2.2.2.2.2.1
theorem dL_law_237 : decode cL_law 237 = .ok (.aload_n 2, 1) := op_44 nb_dL_law_223.2.2.2.2.2.2.2.2.2.2.1
theorem dL_law_238 : decode cL_law 238 = .ok (.aload_n 0, 1) := op_42 nb_dL_law_223.2.2.2.2.2.2.2.2.2.2.2.1
theorem nb_dL_law_239 : bls_w cL_law [(239, [29]), (240, [4]), (241, [96]), (242, [46]), (243, [182, 0, 21]), (246, [87]), (247, [167, 4, 120]), (250, [43]), (251, [42]), (252, [29]), (253, [4]), (254, [96])] := bls_of (by decide +kernel)
theorem dL_law_239 : decode cL_law 239 = .ok (.iload_n 3, 1) := op_29 nb_dL_law_239.1
theorem dL_law_240 : decode cL_law 240 = .ok (.iconst 1, 1) := op_4 nb_dL_law_239.2.1
theorem dL_law_241 : decode cL_law 241 = .ok (.iadd, 1) := op_96 nb_dL_law_239.2.2.1
theorem dL_law_242 : decode cL_law 242 = .ok (.iaload, 1) := op_46 nb_dL_law_239.2.2.2.1
set_option maxRecDepth 100000 in
theorem dL_law_243 : decode cL_law 243 = .ok (.invokevirtual 21, 3) := (op_182 nb_dL_law_239.2.2.2.2.1).trans rfl
theorem dL_law_246 : decode cL_law 246 = .ok (.pop, 1) := op_87 nb_dL_law_239.2.2.2.2.2.1
set_option maxRecDepth 100000 in
theorem dL_law_247 : decode cL_law 247 = .ok (.goto 1144, 3) := (op_167 nb_dL_law_239.2.2.2.2.2.2.1).trans rfl
theorem dL_law_250 : decode cL_law 250 = .ok (.aload_n 1, 1) := op_43 nb_dL_law_239.2.2.2.2.2.2.2.1
theorem dL_law_251 : decode cL_law 251 = .ok (.aload_n 0, 1) := op_42 nb_dL_law_239.2.2.2.2.2.2.2.2.1
theorem dL_law_252 : decode cL_law 252 = .ok (.iload_n 3, 1) := op_29 nb_dL_law_239.2.2.2.2.2.2.2.2.2.1
theorem dL_law_253 : decode cL_law 253 = .ok (.iconst 1, 1) := op_4 nb_dL_law_239.2.2.2.2.2.2.2.2.2.2.1
theorem dL_law_254 : decode cL_law 254 = .ok (.iadd, 1) := op_96 nb_dL_law_239.2.2.2.2.2.2.2.2.2.2.2.1
theorem nb_dL_law_255 : bls_w cL_law [(255, [46]), (256, [182, 0, 22]), (259, [87]), (260, [44]), (261, [42]), (262, [29]), (263, [4]), (264, [96]), (265, [46]), (266, [182, 0, 25]), (269, [87]), (270, [167, 4, 97])] := bls_of (by decide +kernel)
theorem dL_law_255 : decode cL_law 255 = .ok (.iaload, 1) := op_46 nb_dL_law_255.1
set_option maxRecDepth 100000 in
theorem dL_law_256 : decode cL_law 256 = .ok (.invokevirtual 22, 3) := (op_182 nb_dL_law_255.2.1).trans rfl
theorem dL_law_259 : decode cL_law 259 = .ok (.pop, 1) := op_87 nb_dL_law_255.2.2.1
theorem dL_law_260 : decode cL_law 260 = .ok (.aload_n 2, 1) := op_44 nb_dL_law_255.2.2.2.1
theorem dL_law_261 : decode cL_law 261 = .ok (.aload_n 0, 1) := op_42 nb_dL_law_255.2.2.2.2.1
theorem dL_law_262 : decode cL_law 262 = .ok (.iload_n 3, 1) := op_29 nb_dL_law_255.2.2.2.2.2.1
theorem dL_law_263 : decode cL_law 263 = .ok (.iconst 1, 1) := op_4 nb_dL_law_255.2.2.2.2.2.2.1
theorem dL_law_264 : decode cL_law 264 = .ok (.iadd, 1) := op_96 nb_dL_law_255.2.2.2.2.2.2.2.1
theorem dL_law_265 : decode cL_law 265 = .ok (.iaload, 1) := op_46 nb_dL_law_255.2.2.2.2.2.2.2.2.1
set_option maxRecDepth 100000 in
theorem dL_law_266 : decode cL_law 266 = .ok (.invokevirtual 25, 3) := (op_182 nb_dL_law_255.2.2.2.2.2.2.2.2.2.1).trans rfl
theorem dL_law_269 : decode cL_law 269 = .ok (.pop, 1) := op_87 nb_dL_law_255.2.2.2.2.2.2.2.2.2.2.1
set_option maxRecDepth 100000 in
theorem dL_law_270 : decode cL_law 270 = .ok (.goto 1121, 3) := (op_167 nb_dL_law_255.2.2.2.2.2.2.2.2.2.2.2.1).trans rfl
theorem nb_dL_law_273 : bls_w cL_law [(273, [43]), (274, [182, 0, 26]), (277, [87]), (278, [44]), (279, [182, 0, 30]), (282, [87]), (283, [167, 4, 84]), (286, [43]), (287, [42]), (288, [29]), (289, [4]), (290, [96])] := bls_of (by decide +kernel)
theorem dL_law_273 : decode cL_law 273 = .ok (.aload_n 1, 1) := op_43 nb_dL_law_273.1
set_option maxRecDepth 100000 in
theorem dL_law_274 : decode cL_law 274 = .ok (.invokevirtual 26, 3) := (op_182 nb_dL_law_273.2.1).trans rfl
theorem dL_law_277 : decode cL_law 277 = .ok (.pop, 1) := op_87 nb_dL_law_273.2.2.1
theorem dL_law_278 : decode cL_law 278 = .ok (.aload_n 2, 1) := op_44 nb_dL_law_273.2.2.2.1
set_option maxRecDepth 100000 in
theorem dL_law_279 : decode cL_law 279 = .ok (.invokevirtual 30, 3) := (op_182 nb_dL_law_273.2.2.2.2.1).trans rfl
theorem dL_law_282 : decode cL_law 282 = .ok (.pop, 1) := op_87 nb_dL_law_273.2.2.2.2.2.1
set_option maxRecDepth 100000 in
theorem dL_law_283 : decode cL_law 283 = .ok (.goto 1108, 3) := (op_167 nb_dL_law_273.2.2.2.2.2.2.1).trans rfl
theorem dL_law_286 : decode cL_law 286 = .ok (.aload_n 1, 1) := op_43 nb_dL_law_273.2.2.2.2.2.2.2.1
theorem dL_law_287 : decode cL_law 287 = .ok (.aload_n 0, 1) := op_42 nb_dL_law_273.2.2.2.2.2.2.2.2.1
theorem dL_law_288 : decode cL_law 288 = .ok (.iload_n 3, 1) := op_29 nb_dL_law_273.2.2.2.2.2.2.2.2.2.1
theorem dL_law_289 : decode cL_law 289 = .ok (.iconst 1, 1) := op_4 nb_dL_law_273.2.2.2.2.2.2.2.2.2.2.1
theorem dL_law_290 : decode cL_law 290 = .ok (.iadd, 1) := op_96 nb_dL_law_273.2.2.2.2.2.2.2.2.2.2.2.1
theorem nb_dL_law_291 : bls_w cL_law [(291, [46]), (292, [42]), (293, [29]), (294, [5]), (295, [96]), (296, [46]), (297, [182, 0, 31]), (300, [87]), (301, [44]), (302, [42]), (303, [29]), (304, [4])] := bls_of (by decide +kernel)
theorem dL_law_291 : decode cL_law 291 = .ok (.iaload, 1) := op_46 nb_dL_law_291.1
theorem dL_law_292 : decode cL_law 292 = .ok (.aload_n 0, 1) := op_42 nb_dL_law_291.2.1
theorem dL_law_293 : decode cL_law 293 = .ok (.iload_n 3, 1) := op_29 nb_dL_law_291.2.2.1
theorem dL_law_294 : decode cL_law 294 = .ok (.iconst 2, 1) := op_5 nb_dL_law_291.2.2.2.1
theorem dL_law_295 : decode cL_law 295 = .ok (.iadd, 1) := op_96 nb_dL_law_291.2.2.2.2.1
theorem dL_law_296 : decode cL_law 296 = .ok (.iaload, 1) := op_46 nb_dL_law_291.2.2.2.2.2.1
set_option maxRecDepth 100000 in
theorem dL_law_297 : decode cL_law 297 = .ok (.invokevirtual 31, 3) := (op_182 nb_dL_law_291.2.2.2.2.2.2.1).trans rfl
theorem dL_law_300 : decode cL_law 300 = .ok (.pop, 1) := op_87 nb_dL_law_291.2.2.2.2.2.2.2.1
theorem dL_law_301 : decode cL_law 301 = .ok (.aload_n 2, 1) := op_44 nb_dL_law_291.2.2.2.2.2.2.2.2.1
theorem dL_law_302 : decode cL_law 302 = .ok (.aload_n 0, 1) := op_42 nb_dL_law_291.2.2.2.2.2.2.2.2.2.1
theorem dL_law_303 : decode cL_law 303 = .ok (.iload_n 3, 1) := op_29 nb_dL_law_291.2.2.2.2.2.2.2.2.2.2.1
theorem dL_law_304 : decode cL_law 304 = .ok (.iconst 1, 1) := op_4 nb_dL_law_291.2.2.2.2.2.2.2.2.2.2.2.1
theorem nb_dL_law_305 : bls_w cL_law [(305, [96]), (306, [46]), (307, [42]), (308, [29]), (309, [5]), (310, [96]), (311, [46]), (312, [182, 0, 35]), (315, [87]), (316, [167, 4, 51]), (319, [43]), (320, [182, 0, 36])] := bls_of (by decide +kernel)
theorem dL_law_305 : decode cL_law 305 = .ok (.iadd, 1) := op_96 nb_dL_law_305.1
theorem dL_law_306 : decode cL_law 306 = .ok (.iaload, 1) := op_46 nb_dL_law_305.2.1
theorem dL_law_307 : decode cL_law 307 = .ok (.aload_n 0, 1) := op_42 nb_dL_law_305.2.2.1
theorem dL_law_308 : decode cL_law 308 = .ok (.iload_n 3, 1) := op_29 nb_dL_law_305.2.2.2.1
theorem dL_law_309 : decode cL_law 309 = .ok (.iconst 2, 1) := op_5 nb_dL_law_305.2.2.2.2.1
theorem dL_law_310 : decode cL_law 310 = .ok (.iadd, 1) := op_96 nb_dL_law_305.2.2.2.2.2.1
theorem dL_law_311 : decode cL_law 311 = .ok (.iaload, 1) := op_46 nb_dL_law_305.2.2.2.2.2.2.1
set_option maxRecDepth 100000 in
theorem dL_law_312 : decode cL_law 312 = .ok (.invokevirtual 35, 3) := (op_182 nb_dL_law_305.2.2.2.2.2.2.2.1).trans rfl
theorem dL_law_315 : decode cL_law 315 = .ok (.pop, 1) := op_87 nb_dL_law_305.2.2.2.2.2.2.2.2.1
set_option maxRecDepth 100000 in
theorem dL_law_316 : decode cL_law 316 = .ok (.goto 1075, 3) := (op_167 nb_dL_law_305.2.2.2.2.2.2.2.2.2.1).trans rfl
theorem dL_law_319 : decode cL_law 319 = .ok (.aload_n 1, 1) := op_43 nb_dL_law_305.2.2.2.2.2.2.2.2.2.2.1
set_option maxRecDepth 100000 in
theorem dL_law_320 : decode cL_law 320 = .ok (.invokevirtual 36, 3) := (op_182 nb_dL_law_305.2.2.2.2.2.2.2.2.2.2.2.1).trans rfl
theorem nb_dL_law_323 : bls_w cL_law [(323, [87]), (324, [44]), (325, [182, 0, 39]), (328, [87]), (329, [167, 4, 38]), (332, [43]), (333, [42]), (334, [29]), (335, [4]), (336, [96]), (337, [46]), (338, [42])] := bls_of (by decide +kernel)
theorem dL_law_323 : decode cL_law 323 = .ok (.pop, 1) := op_87 nb_dL_law_323.1
theorem dL_law_324 : decode cL_law 324 = .ok (.aload_n 2, 1) := op_44 nb_dL_law_323.2.1
set_option maxRecDepth 100000 in
theorem dL_law_325 : decode cL_law 325 = .ok (.invokevirtual 39, 3) := (op_182 nb_dL_law_323.2.2.1).trans rfl
theorem dL_law_328 : decode cL_law 328 = .ok (.pop, 1) := op_87 nb_dL_law_323.2.2.2.1
set_option maxRecDepth 100000 in
theorem dL_law_329 : decode cL_law 329 = .ok (.goto 1062, 3) := (op_167 nb_dL_law_323.2.2.2.2.1).trans rfl
theorem dL_law_332 : decode cL_law 332 = .ok (.aload_n 1, 1) := op_43 nb_dL_law_323.2.2.2.2.2.1
theorem dL_law_333 : decode cL_law 333 = .ok (.aload_n 0, 1) := op_42 nb_dL_law_323.2.2.2.2.2.2.1
theorem dL_law_334 : decode cL_law 334 = .ok (.iload_n 3, 1) := op_29 nb_dL_law_323.2.2.2.2.2.2.2.1
theorem dL_law_335 : decode cL_law 335 = .ok (.iconst 1, 1) := op_4 nb_dL_law_323.2.2.2.2.2.2.2.2.1
theorem dL_law_336 : decode cL_law 336 = .ok (.iadd, 1) := op_96 nb_dL_law_323.2.2.2.2.2.2.2.2.2.1
theorem dL_law_337 : decode cL_law 337 = .ok (.iaload, 1) := op_46 nb_dL_law_323.2.2.2.2.2.2.2.2.2.2.1
theorem dL_law_338 : decode cL_law 338 = .ok (.aload_n 0, 1) := op_42 nb_dL_law_323.2.2.2.2.2.2.2.2.2.2.2.1
theorem nb_dL_law_339 : bls_w cL_law [(339, [29]), (340, [5]), (341, [96]), (342, [46]), (343, [182, 0, 40]), (346, [87]), (347, [44]), (348, [42]), (349, [29]), (350, [4]), (351, [96]), (352, [46])] := bls_of (by decide +kernel)
theorem dL_law_339 : decode cL_law 339 = .ok (.iload_n 3, 1) := op_29 nb_dL_law_339.1
theorem dL_law_340 : decode cL_law 340 = .ok (.iconst 2, 1) := op_5 nb_dL_law_339.2.1
theorem dL_law_341 : decode cL_law 341 = .ok (.iadd, 1) := op_96 nb_dL_law_339.2.2.1
theorem dL_law_342 : decode cL_law 342 = .ok (.iaload, 1) := op_46 nb_dL_law_339.2.2.2.1
set_option maxRecDepth 100000 in
theorem dL_law_343 : decode cL_law 343 = .ok (.invokevirtual 40, 3) := (op_182 nb_dL_law_339.2.2.2.2.1).trans rfl
theorem dL_law_346 : decode cL_law 346 = .ok (.pop, 1) := op_87 nb_dL_law_339.2.2.2.2.2.1
theorem dL_law_347 : decode cL_law 347 = .ok (.aload_n 2, 1) := op_44 nb_dL_law_339.2.2.2.2.2.2.1
theorem dL_law_348 : decode cL_law 348 = .ok (.aload_n 0, 1) := op_42 nb_dL_law_339.2.2.2.2.2.2.2.1
theorem dL_law_349 : decode cL_law 349 = .ok (.iload_n 3, 1) := op_29 nb_dL_law_339.2.2.2.2.2.2.2.2.1
theorem dL_law_350 : decode cL_law 350 = .ok (.iconst 1, 1) := op_4 nb_dL_law_339.2.2.2.2.2.2.2.2.2.1
theorem dL_law_351 : decode cL_law 351 = .ok (.iadd, 1) := op_96 nb_dL_law_339.2.2.2.2.2.2.2.2.2.2.1
theorem dL_law_352 : decode cL_law 352 = .ok (.iaload, 1) := op_46 nb_dL_law_339.2.2.2.2.2.2.2.2.2.2.2.1
theorem nb_dL_law_353 : bls_w cL_law [(353, [42]), (354, [29]), (355, [5]), (356, [96]), (357, [46]), (358, [182, 0, 43]), (361, [87]), (362, [167, 4, 5]), (365, [43]), (366, [42]), (367, [29]), (368, [4])] := bls_of (by decide +kernel)
theorem dL_law_353 : decode cL_law 353 = .ok (.aload_n 0, 1) := op_42 nb_dL_law_353.1
theorem dL_law_354 : decode cL_law 354 = .ok (.iload_n 3, 1) := op_29 nb_dL_law_353.2.1
theorem dL_law_355 : decode cL_law 355 = .ok (.iconst 2, 1) := op_5 nb_dL_law_353.2.2.1
theorem dL_law_356 : decode cL_law 356 = .ok (.iadd, 1) := op_96 nb_dL_law_353.2.2.2.1
theorem dL_law_357 : decode cL_law 357 = .ok (.iaload, 1) := op_46 nb_dL_law_353.2.2.2.2.1
set_option maxRecDepth 100000 in
theorem dL_law_358 : decode cL_law 358 = .ok (.invokevirtual 43, 3) := (op_182 nb_dL_law_353.2.2.2.2.2.1).trans rfl
theorem dL_law_361 : decode cL_law 361 = .ok (.pop, 1) := op_87 nb_dL_law_353.2.2.2.2.2.2.1
set_option maxRecDepth 100000 in
theorem dL_law_362 : decode cL_law 362 = .ok (.goto 1029, 3) := (op_167 nb_dL_law_353.2.2.2.2.2.2.2.1).trans rfl
theorem dL_law_365 : decode cL_law 365 = .ok (.aload_n 1, 1) := op_43 nb_dL_law_353.2.2.2.2.2.2.2.2.1
theorem dL_law_366 : decode cL_law 366 = .ok (.aload_n 0, 1) := op_42 nb_dL_law_353.2.2.2.2.2.2.2.2.2.1
theorem dL_law_367 : decode cL_law 367 = .ok (.iload_n 3, 1) := op_29 nb_dL_law_353.2.2.2.2.2.2.2.2.2.2.1
theorem dL_law_368 : decode cL_law 368 = .ok (.iconst 1, 1) := op_4 nb_dL_law_353.2.2.2.2.2.2.2.2.2.2.2.1
theorem nb_dL_law_369 : bls_w cL_law [(369, [96]), (370, [46]), (371, [182, 0, 44]), (374, [87]), (375, [44]), (376, [42]), (377, [29]), (378, [4]), (379, [96]), (380, [46]), (381, [182, 0, 47]), (384, [87])] := bls_of (by decide +kernel)
theorem dL_law_369 : decode cL_law 369 = .ok (.iadd, 1) := op_96 nb_dL_law_369.1
theorem dL_law_370 : decode cL_law 370 = .ok (.iaload, 1) := op_46 nb_dL_law_369.2.1
set_option maxRecDepth 100000 in
theorem dL_law_371 : decode cL_law 371 = .ok (.invokevirtual 44, 3) := (op_182 nb_dL_law_369.2.2.1).trans rfl
theorem dL_law_374 : decode cL_law 374 = .ok (.pop, 1) := op_87 nb_dL_law_369.2.2.2.1
theorem dL_law_375 : decode cL_law 375 = .ok (.aload_n 2, 1) := op_44 nb_dL_law_369.2.2.2.2.1
theorem dL_law_376 : decode cL_law 376 = .ok (.aload_n 0, 1) := op_42 nb_dL_law_369.2.2.2.2.2.1
theorem dL_law_377 : decode cL_law 377 = .ok (.iload_n 3, 1) := op_29 nb_dL_law_369.2.2.2.2.2.2.1
theorem dL_law_378 : decode cL_law 378 = .ok (.iconst 1, 1) := op_4 nb_dL_law_369.2.2.2.2.2.2.2.1
theorem dL_law_379 : decode cL_law 379 = .ok (.iadd, 1) := op_96 nb_dL_law_369.2.2.2.2.2.2.2.2.1
theorem dL_law_380 : decode cL_law 380 = .ok (.iaload, 1) := op_46 nb_dL_law_369.2.2.2.2.2.2.2.2.2.1
set_option maxRecDepth 100000 in
theorem dL_law_381 : decode cL_law 381 = .ok (.invokevirtual 47, 3) := (op_182 nb_dL_law_369.2.2.2.2.2.2.2.2.2.2.1).trans rfl
theorem dL_law_384 : decode cL_law 384 = .ok (.pop, 1) := op_87 nb_dL_law_369.2.2.2.2.2.2.2.2.2.2.2.1
theorem nb_dL_law_385 : bls_w cL_law [(385, [167, 3, 238]), (388, [43]), (389, [42]), (390, [29]), (391, [4]), (392, [96]), (393, [46]), (394, [42]), (395, [29]), (396, [5]), (397, [96]), (398, [46])] := bls_of (by decide +kernel)
set_option maxRecDepth 100000 in
theorem dL_law_385 : decode cL_law 385 = .ok (.goto 1006, 3) := (op_167 nb_dL_law_385.1).trans rfl
theorem dL_law_388 : decode cL_law 388 = .ok (.aload_n 1, 1) := op_43 nb_dL_law_385.2.1
theorem dL_law_389 : decode cL_law 389 = .ok (.aload_n 0, 1) := op_42 nb_dL_law_385.2.2.1
theorem dL_law_390 : decode cL_law 390 = .ok (.iload_n 3, 1) := op_29 nb_dL_law_385.2.2.2.1
theorem dL_law_391 : decode cL_law 391 = .ok (.iconst 1, 1) := op_4 nb_dL_law_385.2.2.2.2.1
theorem dL_law_392 : decode cL_law 392 = .ok (.iadd, 1) := op_96 nb_dL_law_385.2.2.2.2.2.1
theorem dL_law_393 : decode cL_law 393 = .ok (.iaload, 1) := op_46 nb_dL_law_385.2.2.2.2.2.2.1
theorem dL_law_394 : decode cL_law 394 = .ok (.aload_n 0, 1) := op_42 nb_dL_law_385.2.2.2.2.2.2.2.1
theorem dL_law_395 : decode cL_law 395 = .ok (.iload_n 3, 1) := op_29 nb_dL_law_385.2.2.2.2.2.2.2.2.1
theorem dL_law_396 : decode cL_law 396 = .ok (.iconst 2, 1) := op_5 nb_dL_law_385.2.2.2.2.2.2.2.2.2.1
theorem dL_law_397 : decode cL_law 397 = .ok (.iadd, 1) := op_96 nb_dL_law_385.2.2.2.2.2.2.2.2.2.2.1
theorem dL_law_398 : decode cL_law 398 = .ok (.iaload, 1) := op_46 nb_dL_law_385.2.2.2.2.2.2.2.2.2.2.2.1
theorem nb_dL_law_399 : bls_w cL_law [(399, [182, 0, 48]), (402, [87]), (403, [44]), (404, [42]), (405, [29]), (406, [4]), (407, [96]), (408, [46]), (409, [42]), (410, [29]), (411, [5]), (412, [96])] := bls_of (by decide +kernel)
set_option maxRecDepth 100000 in
theorem dL_law_399 : decode cL_law 399 = .ok (.invokevirtual 48, 3) := (op_182 nb_dL_law_399.1).trans rfl
theorem dL_law_402 : decode cL_law 402 = .ok (.pop, 1) := op_87 nb_dL_law_399.2.1
theorem dL_law_403 : decode cL_law 403 = .ok (.aload_n 2, 1) := op_44 nb_dL_law_399.2.2.1
theorem dL_law_404 : decode cL_law 404 = .ok (.aload_n 0, 1) := op_42 nb_dL_law_399.2.2.2.1
theorem dL_law_405 : decode cL_law 405 = .ok (.iload_n 3, 1) := op_29 nb_dL_law_399.2.2.2.2.1
theorem dL_law_406 : decode cL_law 406 = .ok (.iconst 1, 1) := op_4 nb_dL_law_399.2.2.2.2.2.1
theorem dL_law_407 : decode cL_law 407 = .ok (.iadd, 1) := op_96 nb_dL_law_399.2.2.2.2.2.2.1
theorem dL_law_408 : decode cL_law 408 = .ok (.iaload, 1) := op_46 nb_dL_law_399.2.2.2.2.2.2.2.1
theorem dL_law_409 : decode cL_law 409 = .ok (.aload_n 0, 1) := op_42 nb_dL_law_399.2.2.2.2.2.2.2.2.1
theorem dL_law_410 : decode cL_law 410 = .ok (.iload_n 3, 1) := op_29 nb_dL_law_399.2.2.2.2.2.2.2.2.2.1
theorem dL_law_411 : decode cL_law 411 = .ok (.iconst 2, 1) := op_5 nb_dL_law_399.2.2.2.2.2.2.2.2.2.2.1
theorem dL_law_412 : decode cL_law 412 = .ok (.iadd, 1) := op_96 nb_dL_law_399.2.2.2.2.2.2.2.2.2.2.2.1
theorem nb_dL_law_413 : bls_w cL_law [(413, [46]), (414, [182, 0, 51]), (417, [87]), (418, [167, 3, 205]), (421, [43]), (422, [42]), (423, [29]), (424, [4]), (425, [96]), (426, [46]), (427, [42]), (428, [29])] := bls_of (by decide +kernel)
theorem dL_law_413 : decode cL_law 413 = .ok (.iaload, 1) := op_46 nb_dL_law_413.1
set_option maxRecDepth 100000 in
theorem dL_law_414 : decode cL_law 414 = .ok (.invokevirtual 51, 3) := (op_182 nb_dL_law_413.2.1).trans rfl
theorem dL_law_417 : decode cL_law 417 = .ok (.pop, 1) := op_87 nb_dL_law_413.2.2.1
set_option maxRecDepth 100000 in
theorem dL_law_418 : decode cL_law 418 = .ok (.goto 973, 3) := (op_167 nb_dL_law_413.2.2.2.1).trans rfl
theorem dL_law_421 : decode cL_law 421 = .ok (.aload_n 1, 1) := op_43 nb_dL_law_413.2.2.2.2.1
theorem dL_law_422 : decode cL_law 422 = .ok (.aload_n 0, 1) := op_42 nb_dL_law_413.2.2.2.2.2.1
theorem dL_law_423 : decode cL_law 423 = .ok (.iload_n 3, 1) := op_29 nb_dL_law_413.2.2.2.2.2.2.1
theorem dL_law_424 : decode cL_law 424 = .ok (.iconst 1, 1) := op_4 nb_dL_law_413.2.2.2.2.2.2.2.1
theorem dL_law_425 : decode cL_law 425 = .ok (.iadd, 1) := op_96 nb_dL_law_413.2.2.2.2.2.2.2.2.1
theorem dL_law_426 : decode cL_law 426 = .ok (.iaload, 1) := op_46 nb_dL_law_413.2.2.2.2.2.2.2.2.2.1
theorem dL_law_427 : decode cL_law 427 = .ok (.aload_n 0, 1) := op_42 nb_dL_law_413.2.2.2.2.2.2.2.2.2.2.1
theorem dL_law_428 : decode cL_law 428 = .ok (.iload_n 3, 1) := op_29 nb_dL_law_413.2.2.2.2.2.2.2.2.2.2.2.1
theorem nb_dL_law_429 : bls_w cL_law [(429, [5]), (430, [96]), (431, [46]), (432, [182, 0, 52]), (435, [87]), (436, [44]), (437, [42]), (438, [29]), (439, [4]), (440, [96]), (441, [46]), (442, [42])] := bls_of (by decide +kernel)
theorem dL_law_429 : decode cL_law 429 = .ok (.iconst 2, 1) := op_5 nb_dL_law_429.1
theorem dL_law_430 : decode cL_law 430 = .ok (.iadd, 1) := op_96 nb_dL_law_429.2.1
theorem dL_law_431 : decode cL_law 431 = .ok (.iaload, 1) := op_46 nb_dL_law_429.2.2.1
set_option maxRecDepth 100000 in
theorem dL_law_432 : decode cL_law 432 = .ok (.invokevirtual 52, 3) := (op_182 nb_dL_law_429.2.2.2.1).trans rfl
theorem dL_law_435 : decode cL_law 435 = .ok (.pop, 1) := op_87 nb_dL_law_429.2.2.2.2.1
theorem dL_law_436 : decode cL_law 436 = .ok (.aload_n 2, 1) := op_44 nb_dL_law_429.2.2.2.2.2.1
theorem dL_law_437 : decode cL_law 437 = .ok (.aload_n 0, 1) := op_42 nb_dL_law_429.2.2.2.2.2.2.1
theorem dL_law_438 : decode cL_law 438 = .ok (.iload_n 3, 1) := op_29 nb_dL_law_429.2.2.2.2.2.2.2.1
theorem dL_law_439 : decode cL_law 439 = .ok (.iconst 1, 1) := op_4 nb_dL_law_429.2.2.2.2.2.2.2.2.1
theorem dL_law_440 : decode cL_law 440 = .ok (.iadd, 1) := op_96 nb_dL_law_429.2.2.2.2.2.2.2.2.2.1
theorem dL_law_441 : decode cL_law 441 = .ok (.iaload, 1) := op_46 nb_dL_law_429.2.2.2.2.2.2.2.2.2.2.1
theorem dL_law_442 : decode cL_law 442 = .ok (.aload_n 0, 1) := op_42 nb_dL_law_429.2.2.2.2.2.2.2.2.2.2.2.1
theorem nb_dL_law_443 : bls_w cL_law [(443, [29]), (444, [5]), (445, [96]), (446, [46]), (447, [182, 0, 55]), (450, [87]), (451, [167, 3, 172]), (454, [43]), (455, [42]), (456, [29]), (457, [4]), (458, [96])] := bls_of (by decide +kernel)
theorem dL_law_443 : decode cL_law 443 = .ok (.iload_n 3, 1) := op_29 nb_dL_law_443.1
theorem dL_law_444 : decode cL_law 444 = .ok (.iconst 2, 1) := op_5 nb_dL_law_443.2.1
theorem dL_law_445 : decode cL_law 445 = .ok (.iadd, 1) := op_96 nb_dL_law_443.2.2.1
theorem dL_law_446 : decode cL_law 446 = .ok (.iaload, 1) := op_46 nb_dL_law_443.2.2.2.1
set_option maxRecDepth 100000 in
theorem dL_law_447 : decode cL_law 447 = .ok (.invokevirtual 55, 3) := (op_182 nb_dL_law_443.2.2.2.2.1).trans rfl
theorem dL_law_450 : decode cL_law 450 = .ok (.pop, 1) := op_87 nb_dL_law_443.2.2.2.2.2.1
set_option maxRecDepth 100000 in
theorem dL_law_451 : decode cL_law 451 = .ok (.goto 940, 3) := (op_167 nb_dL_law_443.2.2.2.2.2.2.1).trans rfl
theorem dL_law_454 : decode cL_law 454 = .ok (.aload_n 1, 1) := op_43 nb_dL_law_443.2.2.2.2.2.2.2.1
theorem dL_law_455 : decode cL_law 455 = .ok (.aload_n 0, 1) := op_42 nb_dL_law_443.2.2.2.2.2.2.2.2.1
theorem dL_law_456 : decode cL_law 456 = .ok (.iload_n 3, 1) := op_29 nb_dL_law_443.2.2.2.2.2.2.2.2.2.1
theorem dL_law_457 : decode cL_law 457 = .ok (.iconst 1, 1) := op_4 nb_dL_law_443.2.2.2.2.2.2.2.2.2.2.1
theorem dL_law_458 : decode cL_law 458 = .ok (.iadd, 1) := op_96 nb_dL_law_443.2.2.2.2.2.2.2.2.2.2.2.1
theorem nb_dL_law_459 : bls_w cL_law [(459, [46]), (460, [182, 0, 56]), (463, [87]), (464, [44]), (465, [42]), (466, [29]), (467, [4]), (468, [96]), (469, [46]), (470, [182, 0, 59]), (473, [87]), (474, [167, 3, 149])] := bls_of (by decide +kernel)
theorem dL_law_459 : decode cL_law 459 = .ok (.iaload, 1) := op_46 nb_dL_law_459.1
set_option maxRecDepth 100000 in
theorem dL_law_460 : decode cL_law 460 = .ok (.invokevirtual 56, 3) := (op_182 nb_dL_law_459.2.1).trans rfl
theorem dL_law_463 : decode cL_law 463 = .ok (.pop, 1) := op_87 nb_dL_law_459.2.2.1
theorem dL_law_464 : decode cL_law 464 = .ok (.aload_n 2, 1) := op_44 nb_dL_law_459.2.2.2.1
theorem dL_law_465 : decode cL_law 465 = .ok (.aload_n 0, 1) := op_42 nb_dL_law_459.2.2.2.2.1
theorem dL_law_466 : decode cL_law 466 = .ok (.iload_n 3, 1) := op_29 nb_dL_law_459.2.2.2.2.2.1
theorem dL_law_467 : decode cL_law 467 = .ok (.iconst 1, 1) := op_4 nb_dL_law_459.2.2.2.2.2.2.1
theorem dL_law_468 : decode cL_law 468 = .ok (.iadd, 1) := op_96 nb_dL_law_459.2.2.2.2.2.2.2.1
theorem dL_law_469 : decode cL_law 469 = .ok (.iaload, 1) := op_46 nb_dL_law_459.2.2.2.2.2.2.2.2.1
set_option maxRecDepth 100000 in
theorem dL_law_470 : decode cL_law 470 = .ok (.invokevirtual 59, 3) := (op_182 nb_dL_law_459.2.2.2.2.2.2.2.2.2.1).trans rfl
theorem dL_law_473 : decode cL_law 473 = .ok (.pop, 1) := op_87 nb_dL_law_459.2.2.2.2.2.2.2.2.2.2.1
set_option maxRecDepth 100000 in
theorem dL_law_474 : decode cL_law 474 = .ok (.goto 917, 3) := (op_167 nb_dL_law_459.2.2.2.2.2.2.2.2.2.2.2.1).trans rfl
theorem nb_dL_law_477 : bls_w cL_law [(477, [43]), (478, [42]), (479, [29]), (480, [4]), (481, [96]), (482, [46]), (483, [42]), (484, [29]), (485, [5]), (486, [96]), (487, [46]), (488, [182, 0, 60])] := bls_of (by decide +kernel)
theorem dL_law_477 : decode cL_law 477 = .ok (.aload_n 1, 1) := op_43 nb_dL_law_477.1
theorem dL_law_478 : decode cL_law 478 = .ok (.aload_n 0, 1) := op_42 nb_dL_law_477.2.1
theorem dL_law_479 : decode cL_law 479 = .ok (.iload_n 3, 1) := op_29 nb_dL_law_477.2.2.1
theorem dL_law_480 : decode cL_law 480 = .ok (.iconst 1, 1) := op_4 nb_dL_law_477.2.2.2.1
theorem dL_law_481 : decode cL_law 481 = .ok (.iadd, 1) := op_96 nb_dL_law_477.2.2.2.2.1
theorem dL_law_482 : decode cL_law 482 = .ok (.iaload, 1) := op_46 nb_dL_law_477.2.2.2.2.2.1
theorem dL_law_483 : decode cL_law 483 = .ok (.aload_n 0, 1) := op_42 nb_dL_law_477.2.2.2.2.2.2.1
theorem dL_law_484 : decode cL_law 484 = .ok (.iload_n 3, 1) := op_29 nb_dL_law_477.2.2.2.2.2.2.2.1
theorem dL_law_485 : decode cL_law 485 = .ok (.iconst 2, 1) := op_5 nb_dL_law_477.2.2.2.2.2.2.2.2.1
theorem dL_law_486 : decode cL_law 486 = .ok (.iadd, 1) := op_96 nb_dL_law_477.2.2.2.2.2.2.2.2.2.1
theorem dL_law_487 : decode cL_law 487 = .ok (.iaload, 1) := op_46 nb_dL_law_477.2.2.2.2.2.2.2.2.2.2.1
set_option maxRecDepth 100000 in
theorem dL_law_488 : decode cL_law 488 = .ok (.invokevirtual 60, 3) := (op_182 nb_dL_law_477.2.2.2.2.2.2.2.2.2.2.2.1).trans rfl
theorem nb_dL_law_491 : bls_w cL_law [(491, [87]), (492, [44]), (493, [42]), (494, [29]), (495, [4]), (496, [96]), (497, [46]), (498, [42]), (499, [29]), (500, [5]), (501, [96]), (502, [46])] := bls_of (by decide +kernel)
theorem dL_law_491 : decode cL_law 491 = .ok (.pop, 1) := op_87 nb_dL_law_491.1
theorem dL_law_492 : decode cL_law 492 = .ok (.aload_n 2, 1) := op_44 nb_dL_law_491.2.1
theorem dL_law_493 : decode cL_law 493 = .ok (.aload_n 0, 1) := op_42 nb_dL_law_491.2.2.1
theorem dL_law_494 : decode cL_law 494 = .ok (.iload_n 3, 1) := op_29 nb_dL_law_491.2.2.2.1
theorem dL_law_495 : decode cL_law 495 = .ok (.iconst 1, 1) := op_4 nb_dL_law_491.2.2.2.2.1
theorem dL_law_496 : decode cL_law 496 = .ok (.iadd, 1) := op_96 nb_dL_law_491.2.2.2.2.2.1
theorem dL_law_497 : decode cL_law 497 = .ok (.iaload, 1) := op_46 nb_dL_law_491.2.2.2.2.2.2.1
theorem dL_law_498 : decode cL_law 498 = .ok (.aload_n 0, 1) := op_42 nb_dL_law_491.2.2.2.2.2.2.2.1
theorem dL_law_499 : decode cL_law 499 = .ok (.iload_n 3, 1) := op_29 nb_dL_law_491.2.2.2.2.2.2.2.2.1
theorem dL_law_500 : decode cL_law 500 = .ok (.iconst 2, 1) := op_5 nb_dL_law_491.2.2.2.2.2.2.2.2.2.1
theorem dL_law_501 : decode cL_law 501 = .ok (.iadd, 1) := op_96 nb_dL_law_491.2.2.2.2.2.2.2.2.2.2.1
theorem dL_law_502 : decode cL_law 502 = .ok (.iaload, 1) := op_46 nb_dL_law_491.2.2.2.2.2.2.2.2.2.2.2.1
theorem nb_dL_law_503 : bls_w cL_law [(503, [182, 0, 63]), (506, [87]), (507, [167, 3, 116]), (510, [43]), (511, [42]), (512, [29]), (513, [4]), (514, [96]), (515, [46]), (516, [42]), (517, [29]), (518, [5])] := bls_of (by decide +kernel)
set_option maxRecDepth 100000 in
theorem dL_law_503 : decode cL_law 503 = .ok (.invokevirtual 63, 3) := (op_182 nb_dL_law_503.1).trans rfl
theorem dL_law_506 : decode cL_law 506 = .ok (.pop, 1) := op_87 nb_dL_law_503.2.1
set_option maxRecDepth 100000 in
theorem dL_law_507 : decode cL_law 507 = .ok (.goto 884, 3) := (op_167 nb_dL_law_503.2.2.1).trans rfl
theorem dL_law_510 : decode cL_law 510 = .ok (.aload_n 1, 1) := op_43 nb_dL_law_503.2.2.2.1
theorem dL_law_511 : decode cL_law 511 = .ok (.aload_n 0, 1) := op_42 nb_dL_law_503.2.2.2.2.1
theorem dL_law_512 : decode cL_law 512 = .ok (.iload_n 3, 1) := op_29 nb_dL_law_503.2.2.2.2.2.1
theorem dL_law_513 : decode cL_law 513 = .ok (.iconst 1, 1) := op_4 nb_dL_law_503.2.2.2.2.2.2.1
theorem dL_law_514 : decode cL_law 514 = .ok (.iadd, 1) := op_96 nb_dL_law_503.2.2.2.2.2.2.2.1
theorem dL_law_515 : decode cL_law 515 = .ok (.iaload, 1) := op_46 nb_dL_law_503.2.2.2.2.2.2.2.2.1
theorem dL_law_516 : decode cL_law 516 = .ok (.aload_n 0, 1) := op_42 nb_dL_law_503.2.2.2.2.2.2.2.2.2.1
theorem dL_law_517 : decode cL_law 517 = .ok (.iload_n 3, 1) := op_29 nb_dL_law_503.2.2.2.2.2.2.2.2.2.2.1
theorem dL_law_518 : decode cL_law 518 = .ok (.iconst 2, 1) := op_5 nb_dL_law_503.2.2.2.2.2.2.2.2.2.2.2.1
theorem nb_dL_law_519 : bls_w cL_law [(519, [96]), (520, [46]), (521, [42]), (522, [29]), (523, [6]), (524, [96]), (525, [46]), (526, [182, 0, 64]), (529, [87]), (530, [44]), (531, [42]), (532, [29])] := bls_of (by decide +kernel)
theorem dL_law_519 : decode cL_law 519 = .ok (.iadd, 1) := op_96 nb_dL_law_519.1
theorem dL_law_520 : decode cL_law 520 = .ok (.iaload, 1) := op_46 nb_dL_law_519.2.1
theorem dL_law_521 : decode cL_law 521 = .ok (.aload_n 0, 1) := op_42 nb_dL_law_519.2.2.1
theorem dL_law_522 : decode cL_law 522 = .ok (.iload_n 3, 1) := op_29 nb_dL_law_519.2.2.2.1
theorem dL_law_523 : decode cL_law 523 = .ok (.iconst 3, 1) := op_6 nb_dL_law_519.2.2.2.2.1
theorem dL_law_524 : decode cL_law 524 = .ok (.iadd, 1) := op_96 nb_dL_law_519.2.2.2.2.2.1
theorem dL_law_525 : decode cL_law 525 = .ok (.iaload, 1) := op_46 nb_dL_law_519.2.2.2.2.2.2.1
set_option maxRecDepth 100000 in
theorem dL_law_526 : decode cL_law 526 = .ok (.invokevirtual 64, 3) := (op_182 nb_dL_law_519.2.2.2.2.2.2.2.1).trans rfl
theorem dL_law_529 : decode cL_law 529 = .ok (.pop, 1) := op_87 nb_dL_law_519.2.2.2.2.2.2.2.2.1
theorem dL_law_530 : decode cL_law 530 = .ok (.aload_n 2, 1) := op_44 nb_dL_law_519.2.2.2.2.2.2.2.2.2.1
theorem dL_law_531 : decode cL_law 531 = .ok (.aload_n 0, 1) := op_42 nb_dL_law_519.2.2.2.2.2.2.2.2.2.2.1
theorem dL_law_532 : decode cL_law 532 = .ok (.iload_n 3, 1) := op_29 nb_dL_law_519.2.2.2.2.2.2.2.2.2.2.2.1
theorem nb_dL_law_533 : bls_w cL_law [(533, [4]), (534, [96]), (535, [46]), (536, [42]), (537, [29]), (538, [5]), (539, [96]), (540, [46]), (541, [42]), (542, [29]), (543, [6]), (544, [96])] := bls_of (by decide +kernel)
theorem dL_law_533 : decode cL_law 533 = .ok (.iconst 1, 1) := op_4 nb_dL_law_533.1
theorem dL_law_534 : decode cL_law 534 = .ok (.iadd, 1) := op_96 nb_dL_law_533.2.1
theorem dL_law_535 : decode cL_law 535 = .ok (.iaload, 1) := op_46 nb_dL_law_533.2.2.1
theorem dL_law_536 : decode cL_law 536 = .ok (.aload_n 0, 1) := op_42 nb_dL_law_533.2.2.2.1
theorem dL_law_537 : decode cL_law 537 = .ok (.iload_n 3, 1) := op_29 nb_dL_law_533.2.2.2.2.1
theorem dL_law_538 : decode cL_law 538 = .ok (.iconst 2, 1) := op_5 nb_dL_law_533.2.2.2.2.2.1
theorem dL_law_539 : decode cL_law 539 = .ok (.iadd, 1) := op_96 nb_dL_law_533.2.2.2.2.2.2.1
theorem dL_law_540 : decode cL_law 540 = .ok (.iaload, 1) := op_46 nb_dL_law_533.2.2.2.2.2.2.2.1
theorem dL_law_541 : decode cL_law 541 = .ok (.aload_n 0, 1) := op_42 nb_dL_law_533.2.2.2.2.2.2.2.2.1
theorem dL_law_542 : decode cL_law 542 = .ok (.iload_n 3, 1) := op_29 nb_dL_law_533.2.2.2.2.2.2.2.2.2.1
theorem dL_law_543 : decode cL_law 543 = .ok (.iconst 3, 1) := op_6 nb_dL_law_533.2.2.2.2.2.2.2.2.2.2.1
theorem dL_law_544 : decode cL_law 544 = .ok (.iadd, 1) := op_96 nb_dL_law_533.2.2.2.2.2.2.2.2.2.2.2.1
theorem nb_dL_law_545 : bls_w cL_law [(545, [46]), (546, [182, 0, 68]), (549, [87]), (550, [167, 3, 73]), (553, [43]), (554, [42]), (555, [29]), (556, [4]), (557, [96]), (558, [46]), (559, [182, 0, 69]), (562, [87])] := bls_of (by decide +kernel)
theorem dL_law_545 : decode cL_law 545 = .ok (.iaload, 1) := op_46 nb_dL_law_545.1
set_option maxRecDepth 100000 in
theorem dL_law_546 : decode cL_law 546 = .ok (.invokevirtual 68, 3) := (op_182 nb_dL_law_545.2.1).trans rfl
theorem dL_law_549 : decode cL_law 549 = .ok (.pop, 1) := op_87 nb_dL_law_545.2.2.1
set_option maxRecDepth 100000 in
theorem dL_law_550 : decode cL_law 550 = .ok (.goto 841, 3) := (op_167 nb_dL_law_545.2.2.2.1).trans rfl
theorem dL_law_553 : decode cL_law 553 = .ok (.aload_n 1, 1) := op_43 nb_dL_law_545.2.2.2.2.1
theorem dL_law_554 : decode cL_law 554 = .ok (.aload_n 0, 1) := op_42 nb_dL_law_545.2.2.2.2.2.1
theorem dL_law_555 : decode cL_law 555 = .ok (.iload_n 3, 1) := op_29 nb_dL_law_545.2.2.2.2.2.2.1
theorem dL_law_556 : decode cL_law 556 = .ok (.iconst 1, 1) := op_4 nb_dL_law_545.2.2.2.2.2.2.2.1
theorem dL_law_557 : decode cL_law 557 = .ok (.iadd, 1) := op_96 nb_dL_law_545.2.2.2.2.2.2.2.2.1
theorem dL_law_558 : decode cL_law 558 = .ok (.iaload, 1) := op_46 nb_dL_law_545.2.2.2.2.2.2.2.2.2.1
set_option maxRecDepth 100000 in
theorem dL_law_559 : decode cL_law 559 = .ok (.invokevirtual 69, 3) := (op_182 nb_dL_law_545.2.2.2.2.2.2.2.2.2.2.1).trans rfl
theorem dL_law_562 : decode cL_law 562 = .ok (.pop, 1) := op_87 nb_dL_law_545.2.2.2.2.2.2.2.2.2.2.2.1
theorem nb_dL_law_563 : bls_w cL_law [(563, [44]), (564, [42]), (565, [29]), (566, [4]), (567, [96]), (568, [46]), (569, [182, 0, 72]), (572, [87]), (573, [167, 3, 50]), (576, [43]), (577, [42]), (578, [29])] := bls_of (by decide +kernel)
theorem dL_law_563 : decode cL_law 563 = .ok (.aload_n 2, 1) := op_44 nb_dL_law_563.1
theorem dL_law_564 : decode cL_law 564 = .ok (.aload_n 0, 1) := op_42 nb_dL_law_563.2.1
theorem dL_law_565 : decode cL_law 565 = .ok (.iload_n 3, 1) := op_29 nb_dL_law_563.2.2.1
theorem dL_law_566 : decode cL_law 566 = .ok (.iconst 1, 1) := op_4 nb_dL_law_563.2.2.2.1
theorem dL_law_567 : decode cL_law 567 = .ok (.iadd, 1) := op_96 nb_dL_law_563.2.2.2.2.1
theorem dL_law_568 : decode cL_law 568 = .ok (.iaload, 1) := op_46 nb_dL_law_563.2.2.2.2.2.1
set_option maxRecDepth 100000 in
theorem dL_law_569 : decode cL_law 569 = .ok (.invokevirtual 72, 3) := (op_182 nb_dL_law_563.2.2.2.2.2.2.1).trans rfl
theorem dL_law_572 : decode cL_law 572 = .ok (.pop, 1) := op_87 nb_dL_law_563.2.2.2.2.2.2.2.1
set_option maxRecDepth 100000 in
theorem dL_law_573 : decode cL_law 573 = .ok (.goto 818, 3) := (op_167 nb_dL_law_563.2.2.2.2.2.2.2.2.1).trans rfl
theorem dL_law_576 : decode cL_law 576 = .ok (.aload_n 1, 1) := op_43 nb_dL_law_563.2.2.2.2.2.2.2.2.2.1
theorem dL_law_577 : decode cL_law 577 = .ok (.aload_n 0, 1) := op_42 nb_dL_law_563.2.2.2.2.2.2.2.2.2.2.1
theorem dL_law_578 : decode cL_law 578 = .ok (.iload_n 3, 1) := op_29 nb_dL_law_563.2.2.2.2.2.2.2.2.2.2.2.1
theorem nb_dL_law_579 : bls_w cL_law [(579, [4]), (580, [96]), (581, [46]), (582, [42]), (583, [29]), (584, [5]), (585, [96]), (586, [46]), (587, [182, 0, 73]), (590, [87]), (591, [44]), (592, [42])] := bls_of (by decide +kernel)
theorem dL_law_579 : decode cL_law 579 = .ok (.iconst 1, 1) := op_4 nb_dL_law_579.1
theorem dL_law_580 : decode cL_law 580 = .ok (.iadd, 1) := op_96 nb_dL_law_579.2.1
theorem dL_law_581 : decode cL_law 581 = .ok (.iaload, 1) := op_46 nb_dL_law_579.2.2.1
theorem dL_law_582 : decode cL_law 582 = .ok (.aload_n 0, 1) := op_42 nb_dL_law_579.2.2.2.1
theorem dL_law_583 : decode cL_law 583 = .ok (.iload_n 3, 1) := op_29 nb_dL_law_579.2.2.2.2.1
theorem dL_law_584 : decode cL_law 584 = .ok (.iconst 2, 1) := op_5 nb_dL_law_579.2.2.2.2.2.1
theorem dL_law_585 : decode cL_law 585 = .ok (.iadd, 1) := op_96 nb_dL_law_579.2.2.2.2.2.2.1
theorem dL_law_586 : decode cL_law 586 = .ok (.iaload, 1) := op_46 nb_dL_law_579.2.2.2.2.2.2.2.1
set_option maxRecDepth 100000 in
theorem dL_law_587 : decode cL_law 587 = .ok (.invokevirtual 73, 3) := (op_182 nb_dL_law_579.2.2.2.2.2.2.2.2.1).trans rfl
theorem dL_law_590 : decode cL_law 590 = .ok (.pop, 1) := op_87 nb_dL_law_579.2.2.2.2.2.2.2.2.2.1
theorem dL_law_591 : decode cL_law 591 = .ok (.aload_n 2, 1) := op_44 nb_dL_law_579.2.2.2.2.2.2.2.2.2.2.1
theorem dL_law_592 : decode cL_law 592 = .ok (.aload_n 0, 1) := op_42 nb_dL_law_579.2.2.2.2.2.2.2.2.2.2.2.1
theorem nb_dL_law_593 : bls_w cL_law [(593, [29]), (594, [4]), (595, [96]), (596, [46]), (597, [42])] := bls_of (by decide +kernel)
theorem dL_law_593 : decode cL_law 593 = .ok (.iload_n 3, 1) := op_29 nb_dL_law_593.1
theorem dL_law_594 : decode cL_law 594 = .ok (.iconst 1, 1) := op_4 nb_dL_law_593.2.1
theorem dL_law_595 : decode cL_law 595 = .ok (.iadd, 1) := op_96 nb_dL_law_593.2.2.1
theorem dL_law_596 : decode cL_law 596 = .ok (.iaload, 1) := op_46 nb_dL_law_593.2.2.2.1
theorem dL_law_597 : decode cL_law 597 = .ok (.aload_n 0, 1) := op_42 nb_dL_law_593.2.2.2.2.1
