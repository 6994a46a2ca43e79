/-! reference: X9_plans, X9_startsAt -/
theorem dX9_plans_0 : decode cX9_plans 0 = .ok (.iload_n 1, 1) := by decide +kernel
theorem dX9_plans_1 : decode cX9_plans 1 = .ok (.invokestatic 274, 3) := by decide +kernel
theorem dX9_plans_4 : decode cX9_plans 4 = .ok (.ifCond .eq 15, 3) := by decide +kernel
theorem dX9_plans_7 : decode cX9_plans 7 = .ok (.iload_n 3, 1) := by decide +kernel
theorem dX9_plans_8 : decode cX9_plans 8 = .ok (.i2l, 1) := by decide +kernel
theorem dX9_plans_9 : decode cX9_plans 9 = .ok (.lconst 1, 1) := by decide +kernel
theorem dX9_plans_10 : decode cX9_plans 10 = .ok (.ldc2_w 277, 3) := by decide +kernel
theorem dX9_plans_13 : decode cX9_plans 13 = .ok (.invokestatic 111, 3) := by decide +kernel
theorem dX9_plans_16 : decode cX9_plans 16 = .ok (.ifCond .ne 5, 3) := by decide +kernel
theorem dX9_plans_19 : decode cX9_plans 19 = .ok (.iconst (-1), 1) := by decide +kernel
theorem dX9_plans_20 : decode cX9_plans 20 = .ok (.ireturn, 1) := by decide +kernel
theorem dX9_plans_21 : decode cX9_plans 21 = .ok (.aload_n 0, 1) := by decide +kernel
theorem dX9_plans_22 : decode cX9_plans 22 = .ok (.getfield 88, 3) := by decide +kernel
theorem dX9_plans_25 : decode cX9_plans 25 = .ok (.iload_n 1, 1) := by decide +kernel
theorem dX9_plans_26 : decode cX9_plans 26 = .ok (.iaload, 1) := by decide +kernel
theorem dX9_plans_27 : decode cX9_plans 27 = .ok (.ifCond .lt 17, 3) := by decide +kernel
theorem dX9_plans_30 : decode cX9_plans 30 = .ok (.aload_n 0, 1) := by decide +kernel
theorem dX9_plans_31 : decode cX9_plans 31 = .ok (.getfield 88, 3) := by decide +kernel
theorem dX9_plans_34 : decode cX9_plans 34 = .ok (.iload_n 1, 1) := by decide +kernel
theorem dX9_plans_35 : decode cX9_plans 35 = .ok (.iaload, 1) := by decide +kernel
theorem dX9_plans_36 : decode cX9_plans 36 = .ok (.bipush 50, 2) := by decide +kernel
theorem dX9_plans_38 : decode cX9_plans 38 = .ok (.if_icmp .eq 6, 3) := by decide +kernel
theorem dX9_plans_41 : decode cX9_plans 41 = .ok (.bipush (-12), 2) := by decide +kernel
theorem dX9_plans_43 : decode cX9_plans 43 = .ok (.ireturn, 1) := by decide +kernel
theorem dX9_plans_44 : decode cX9_plans 44 = .ok (.iconst 0, 1) := by decide +kernel
theorem dX9_plans_45 : decode cX9_plans 45 = .ok (.istore 4, 2) := by decide +kernel
theorem dX9_plans_47 : decode cX9_plans 47 = .ok (.aload_n 0, 1) := by decide +kernel
theorem dX9_plans_48 : decode cX9_plans 48 = .ok (.getfield 88, 3) := by decide +kernel
theorem dX9_plans_51 : decode cX9_plans 51 = .ok (.iload_n 1, 1) := by decide +kernel
theorem dX9_plans_52 : decode cX9_plans 52 = .ok (.iaload, 1) := by decide +kernel
theorem dX9_plans_53 : decode cX9_plans 53 = .ok (.bipush 50, 2) := by decide +kernel
theorem dX9_plans_55 : decode cX9_plans 55 = .ok (.if_icmp .ne 11, 3) := by decide +kernel
theorem dX9_plans_58 : decode cX9_plans 58 = .ok (.iload_n 2, 1) := by decide +kernel
theorem dX9_plans_59 : decode cX9_plans 59 = .ok (.ifCond .lt 7, 3) := by decide +kernel
theorem dX9_plans_62 : decode cX9_plans 62 = .ok (.iconst 1, 1) := by decide +kernel
theorem dX9_plans_63 : decode cX9_plans 63 = .ok (.goto 4, 3) := by decide +kernel
theorem dX9_plans_66 : decode cX9_plans 66 = .ok (.iconst 0, 1) := by decide +kernel
theorem dX9_plans_67 : decode cX9_plans 67 = .ok (.istore 5, 2) := by decide +kernel
theorem dX9_plans_69 : decode cX9_plans 69 = .ok (.iload 5, 2) := by decide +kernel
theorem dX9_plans_71 : decode cX9_plans 71 = .ok (.ifCond .eq 160, 3) := by decide +kernel
theorem dX9_plans_74 : decode cX9_plans 74 = .ok (.iload 4, 2) := by decide +kernel
theorem dX9_plans_76 : decode cX9_plans 76 = .ok (.iload_n 3, 1) := by decide +kernel
theorem dX9_plans_77 : decode cX9_plans 77 = .ok (.if_icmp .ge 154, 3) := by decide +kernel
theorem dX9_plans_80 : decode cX9_plans 80 = .ok (.iload_n 2, 1) := by decide +kernel
theorem dX9_plans_81 : decode cX9_plans 81 = .ok (.aload_n 0, 1) := by decide +kernel
theorem dX9_plans_82 : decode cX9_plans 82 = .ok (.getfield 91, 3) := by decide +kernel
theorem dX9_plans_85 : decode cX9_plans 85 = .ok (.iload_n 1, 1) := by decide +kernel
theorem dX9_plans_86 : decode cX9_plans 86 = .ok (.iaload, 1) := by decide +kernel
theorem dX9_plans_87 : decode cX9_plans 87 = .ok (.iconst 2, 1) := by decide +kernel
theorem dX9_plans_88 : decode cX9_plans 88 = .ok (.isub, 1) := by decide +kernel
theorem dX9_plans_89 : decode cX9_plans 89 = .ok (.iconst 2, 1) := by decide +kernel
theorem dX9_plans_90 : decode cX9_plans 90 = .ok (.iload 4, 2) := by decide +kernel
theorem dX9_plans_92 : decode cX9_plans 92 = .ok (.imul, 1) := by decide +kernel
theorem dX9_plans_93 : decode cX9_plans 93 = .ok (.isub, 1) := by decide +kernel
theorem dX9_plans_94 : decode cX9_plans 94 = .ok (.if_icmp .gt 16, 3) := by decide +kernel
theorem dX9_plans_97 : decode cX9_plans 97 = .ok (.aload_n 0, 1) := by decide +kernel
theorem dX9_plans_98 : decode cX9_plans 98 = .ok (.getfield 271, 3) := by decide +kernel
theorem dX9_plans_101 : decode cX9_plans 101 = .ok (.bipush 12, 2) := by decide +kernel
theorem dX9_plans_103 : decode cX9_plans 103 = .ok (.if_icmp .ge 7, 3) := by decide +kernel
theorem dX9_plans_106 : decode cX9_plans 106 = .ok (.iconst 1, 1) := by decide +kernel
theorem dX9_plans_107 : decode cX9_plans 107 = .ok (.goto 4, 3) := by decide +kernel
theorem dX9_plans_110 : decode cX9_plans 110 = .ok (.iconst 0, 1) := by decide +kernel
theorem dX9_plans_111 : decode cX9_plans 111 = .ok (.istore 5, 2) := by decide +kernel
theorem dX9_plans_113 : decode cX9_plans 113 = .ok (.bipush 60, 2) := by decide +kernel
theorem dX9_plans_115 : decode cX9_plans 115 = .ok (.iload_n 1, 1) := by decide +kernel
theorem dX9_plans_116 : decode cX9_plans 116 = .ok (.imul, 1) := by decide +kernel
theorem dX9_plans_117 : decode cX9_plans 117 = .ok (.iload_n 2, 1) := by decide +kernel
theorem dX9_plans_118 : decode cX9_plans 118 = .ok (.iadd, 1) := by decide +kernel
theorem dX9_plans_119 : decode cX9_plans 119 = .ok (.iconst 2, 1) := by decide +kernel
theorem dX9_plans_120 : decode cX9_plans 120 = .ok (.iload 4, 2) := by decide +kernel
theorem dX9_plans_122 : decode cX9_plans 122 = .ok (.imul, 1) := by decide +kernel
theorem dX9_plans_123 : decode cX9_plans 123 = .ok (.iadd, 1) := by decide +kernel
theorem dX9_plans_124 : decode cX9_plans 124 = .ok (.istore 6, 2) := by decide +kernel
theorem dX9_plans_126 : decode cX9_plans 126 = .ok (.iload 5, 2) := by decide +kernel
theorem dX9_plans_128 : decode cX9_plans 128 = .ok (.ifCond .eq 43, 3) := by decide +kernel
theorem dX9_plans_131 : decode cX9_plans 131 = .ok (.aload_n 0, 1) := by decide +kernel
theorem dX9_plans_132 : decode cX9_plans 132 = .ok (.getfield 94, 3) := by decide +kernel
theorem dX9_plans_135 : decode cX9_plans 135 = .ok (.iload 6, 2) := by decide +kernel
theorem dX9_plans_137 : decode cX9_plans 137 = .ok (.laload, 1) := by decide +kernel
theorem dX9_plans_138 : decode cX9_plans 138 = .ok (.lconst 1, 1) := by decide +kernel
theorem dX9_plans_139 : decode cX9_plans 139 = .ok (.ldc2_w 238, 3) := by decide +kernel
theorem dX9_plans_142 : decode cX9_plans 142 = .ok (.invokestatic 111, 3) := by decide +kernel
theorem dX9_plans_145 : decode cX9_plans 145 = .ok (.ifCond .eq 26, 3) := by decide +kernel
theorem dX9_plans_148 : decode cX9_plans 148 = .ok (.aload_n 0, 1) := by decide +kernel
theorem dX9_plans_149 : decode cX9_plans 149 = .ok (.getfield 94, 3) := by decide +kernel
theorem dX9_plans_152 : decode cX9_plans 152 = .ok (.iload 6, 2) := by decide +kernel
theorem dX9_plans_154 : decode cX9_plans 154 = .ok (.iconst 1, 1) := by decide +kernel
theorem dX9_plans_155 : decode cX9_plans 155 = .ok (.iadd, 1) := by decide +kernel
theorem dX9_plans_156 : decode cX9_plans 156 = .ok (.laload, 1) := by decide +kernel
theorem dX9_plans_157 : decode cX9_plans 157 = .ok (.lconst 0, 1) := by decide +kernel
theorem dX9_plans_158 : decode cX9_plans 158 = .ok (.ldc2_w 238, 3) := by decide +kernel
theorem dX9_plans_161 : decode cX9_plans 161 = .ok (.invokestatic 111, 3) := by decide +kernel
theorem dX9_plans_164 : decode cX9_plans 164 = .ok (.ifCond .eq 7, 3) := by decide +kernel
theorem dX9_plans_167 : decode cX9_plans 167 = .ok (.iconst 1, 1) := by decide +kernel
theorem dX9_plans_168 : decode cX9_plans 168 = .ok (.goto 4, 3) := by decide +kernel
theorem dX9_plans_171 : decode cX9_plans 171 = .ok (.iconst 0, 1) := by decide +kernel
theorem dX9_plans_172 : decode cX9_plans 172 = .ok (.istore 5, 2) := by decide +kernel
theorem dX9_plans_174 : decode cX9_plans 174 = .ok (.iload 5, 2) := by decide +kernel
theorem dX9_plans_176 : decode cX9_plans 176 = .ok (.ifCond .eq 52, 3) := by decide +kernel
theorem dX9_plans_179 : decode cX9_plans 179 = .ok (.aload_n 0, 1) := by decide +kernel
theorem dX9_plans_180 : decode cX9_plans 180 = .ok (.getfield 64, 3) := by decide +kernel
theorem dX9_plans_183 : decode cX9_plans 183 = .ok (.aload_n 0, 1) := by decide +kernel
theorem dX9_plans_184 : decode cX9_plans 184 = .ok (.getfield 271, 3) := by decide +kernel
theorem dX9_plans_187 : decode cX9_plans 187 = .ok (.aload_n 0, 1) := by decide +kernel
theorem dX9_plans_188 : decode cX9_plans 188 = .ok (.getfield 94, 3) := by decide +kernel
theorem dX9_plans_191 : decode cX9_plans 191 = .ok (.iload 6, 2) := by decide +kernel
theorem dX9_plans_193 : decode cX9_plans 193 = .ok (.laload, 1) := by decide +kernel
theorem dX9_plans_194 : decode cX9_plans 194 = .ok (.l2i, 1) := by decide +kernel
theorem dX9_plans_195 : decode cX9_plans 195 = .ok (.iastore, 1) := by decide +kernel
theorem dX9_plans_196 : decode cX9_plans 196 = .ok (.aload_n 0, 1) := by decide +kernel
theorem dX9_plans_197 : decode cX9_plans 197 = .ok (.getfield 67, 3) := by decide +kernel
theorem dX9_plans_200 : decode cX9_plans 200 = .ok (.aload_n 0, 1) := by decide +kernel
theorem dX9_plans_201 : decode cX9_plans 201 = .ok (.getfield 271, 3) := by decide +kernel
theorem dX9_plans_204 : decode cX9_plans 204 = .ok (.aload_n 0, 1) := by decide +kernel
theorem dX9_plans_205 : decode cX9_plans 205 = .ok (.getfield 94, 3) := by decide +kernel
theorem dX9_plans_208 : decode cX9_plans 208 = .ok (.iload 6, 2) := by decide +kernel
theorem dX9_plans_210 : decode cX9_plans 210 = .ok (.iconst 1, 1) := by decide +kernel
theorem dX9_plans_211 : decode cX9_plans 211 = .ok (.iadd, 1) := by decide +kernel
theorem dX9_plans_212 : decode cX9_plans 212 = .ok (.laload, 1) := by decide +kernel
theorem dX9_plans_213 : decode cX9_plans 213 = .ok (.l2i, 1) := by decide +kernel
theorem dX9_plans_214 : decode cX9_plans 214 = .ok (.iastore, 1) := by decide +kernel
theorem dX9_plans_215 : decode cX9_plans 215 = .ok (.aload_n 0, 1) := by decide +kernel
theorem dX9_plans_216 : decode cX9_plans 216 = .ok (.dup, 1) := by decide +kernel
theorem dX9_plans_217 : decode cX9_plans 217 = .ok (.getfield 271, 3) := by decide +kernel
theorem dX9_plans_220 : decode cX9_plans 220 = .ok (.iconst 1, 1) := by decide +kernel
theorem dX9_plans_221 : decode cX9_plans 221 = .ok (.iadd, 1) := by decide +kernel
theorem dX9_plans_222 : decode cX9_plans 222 = .ok (.putfield 271, 3) := by decide +kernel
theorem dX9_plans_225 : decode cX9_plans 225 = .ok (.iinc 4 1, 3) := by decide +kernel
theorem dX9_plans_228 : decode cX9_plans 228 = .ok (.goto (-159), 3) := by decide +kernel
theorem dX9_plans_231 : decode cX9_plans 231 = .ok (.iload 4, 2) := by decide +kernel
theorem dX9_plans_233 : decode cX9_plans 233 = .ok (.ireturn, 1) := by decide +kernel
def fX9_plans_228 (N : Nat) (k_69 : Int32 → Int32 → Int32 → Int32 → Int32 → Int32 → List Int32 → List Int32 → List Int32 → List Int32 → List Int64 → Option (Int32 × Int32 × List Int32 × List Int32)) (x1 : Int32) (x2 : Int32) (x3 : Int32) (x4 : Int32) (x5 : Int32) (v_planned : Int32) (v_planLine : List Int32) (v_planWay : List Int32) (v_shelf : List Int32) (v_many : List Int32) (v_items : List Int64) : Option (Int32 × Int32 × List Int32 × List Int32) :=
    k_69 x1 x2 x3 x4 x5 v_planned v_planLine v_planWay v_shelf v_many v_items

set_option maxHeartbeats 4000000 in
set_option maxRecDepth 100000 in
theorem tX9_plans_228 {p : Program} {l : Launch} {e : Env} {s : State} {m : MethodId} {args : Array Value} {below : List Frame} {meth : Method} {c : Code} {D : va_G} {cI cL cS cH : ClassId} {A : Nat → Prop} {d : Nat} {a : Nat → Nat} (hd : 3 ≤ d) (C0 : mm_Cx p s m args meth c RX9 cX9_plans 7 (some .int) D (mm_T cI cL cS cH) A) (hA : ∀ q, s.heap.size ≤ q → A q) {v_keptMany : Int32} {v_done : Int32} {v_rowsOf : Int32} {v_columnsOf : Int32} {v_folded : Int32} {v_wronged : Int32} {v_tapeMany : Int32} {v_textMany : Int32} {v_base : Int32} {v_at : Int32} {v_ends : Int32} {v_fault : Int32} {v_opened : Int32} {v_bentMany : Int32} {v_bentWrong : Int32} {v_moreWorn : Int32} {v_allWrong : Int32} {v_allWorn : Int32} {v_z : Int32} {v_wishedField : Int32} {v_isFound : Bool} {v_bestWrong : Int32} {v_bestWorn : Int32} {v_bestMany : Int32} {v_soughtBy : Int32} {v_sought : Int32} {v_soughtAt : Int32} {v_foundMany : Int32} {v_foundOrder : Int32} {v_isKept : Bool} {v_imageRows : Int32} {v_imageColumns : Int32} {v_imageFolded : Int32} {v_imageWronged : Int32} {v_bodies : Int32} {v_ran : Int32} {v_ownKind : Int32} {v_ownNumber : Int32} {v_limit : List Int32} {v_changeWas : List Int32} {v_changeIs : List Int32} {v_shapeRows : List Int32} {v_shapeColumns : List Int32} {v_row : List Int32} {v_column : List Int32} {v_below : List Int32} {v_face : List Int32} {v_worn : List Int32} {v_lastBend : List Int32} {v_tape : List Int32} {v_text : List Int32} {v_names : List Int32} {v_bends : List Int32} {v_high : List Int32} {v_to : List Int32} {v_pileSize : List Int32} {v_way1 : List Int32} {v_bestWay : List Int32} {v_order1 : List Int32} {v_placeIn : List Int32} {v_bodyKind : List Int32} {v_trace : List Int32} {v_carried : List Int64} {r : Int32} {w_planned : Int32} {w_planLine : List Int32} {w_planWay : List Int32} (N : Nat) {k_69 : Int32 → Int32 → Int32 → Int32 → Int32 → Int32 → List Int32 → List Int32 → List Int32 → List Int32 → List Int64 → Option (Int32 × Int32 × List Int32 × List Int32)} (hk_69 : ∀ (x1 : Int32) (x2 : Int32) (x3 : Int32) (x4 : Int32) (x5 : Int32) (v_planned : Int32) (v_planLine : List Int32) (v_planWay : List Int32) (v_shelf : List Int32) (v_many : List Int32) (v_items : List Int64) (H : Heap) (locs : List Loc) (ls : Array Slot), k_69 x1 x2 x3 x4 x5 v_planned v_planLine v_planWay v_shelf v_many v_items = some (r, w_planned, w_planLine, w_planWay) → va_P D mm_cl (wd_X9 cI cL cS cH a v_keptMany v_done v_rowsOf v_columnsOf v_folded v_wronged v_tapeMany v_textMany v_base v_at v_ends v_fault v_opened v_bentMany v_bentWrong v_moreWorn v_planned v_allWrong v_allWorn v_z v_wishedField v_isFound v_bestWrong v_bestWorn v_bestMany v_soughtBy v_sought v_soughtAt v_foundMany v_foundOrder v_isKept v_imageRows v_imageColumns v_imageFolded v_imageWronged v_bodies v_ran v_ownKind v_ownNumber v_limit v_changeWas v_changeIs v_shapeRows v_shapeColumns v_row v_column v_below v_face v_worn v_lastBend v_tape v_text v_names v_bends v_high v_to v_pileSize v_planLine v_planWay v_way1 v_bestWay v_order1 v_placeIn v_bodyKind v_trace v_shelf v_many v_items v_carried) H → va_D A (wd_X9 cI cL cS cH a v_keptMany v_done v_rowsOf v_columnsOf v_folded v_wronged v_tapeMany v_textMany v_base v_at v_ends v_fault v_opened v_bentMany v_bentWrong v_moreWorn v_planned v_allWrong v_allWorn v_z v_wishedField v_isFound v_bestWrong v_bestWorn v_bestMany v_soughtBy v_sought v_soughtAt v_foundMany v_foundOrder v_isKept v_imageRows v_imageColumns v_imageFolded v_imageWronged v_bodies v_ran v_ownKind v_ownNumber v_limit v_changeWas v_changeIs v_shapeRows v_shapeColumns v_row v_column v_below v_face v_worn v_lastBend v_tape v_text v_names v_bends v_high v_to v_pileSize v_planLine v_planWay v_way1 v_bestWay v_order1 v_placeIn v_bodyKind v_trace v_shelf v_many v_items v_carried) → va_S A s.heap H locs → lv_has ls 7 [(0, .ref (a 0)), (1, .int x1), (2, .int x2), (3, .int x3), (4, .int x4), (5, .int x5)] → W p l e (mm_rr d) s m args below meth c H locs 0 0 (mm_Z below D A (wd_X9 cI cL cS cH a v_keptMany v_done v_rowsOf v_columnsOf v_folded v_wronged v_tapeMany v_textMany v_base v_at v_ends v_fault v_opened v_bentMany v_bentWrong v_moreWorn w_planned v_allWrong v_allWorn v_z v_wishedField v_isFound v_bestWrong v_bestWorn v_bestMany v_soughtBy v_sought v_soughtAt v_foundMany v_foundOrder v_isKept v_imageRows v_imageColumns v_imageFolded v_imageWronged v_bodies v_ran v_ownKind v_ownNumber v_limit v_changeWas v_changeIs v_shapeRows v_shapeColumns v_row v_column v_below v_face v_worn v_lastBend v_tape v_text v_names v_bends v_high v_to v_pileSize w_planLine w_planWay v_way1 v_bestWay v_order1 v_placeIn v_bodyKind v_trace v_shelf v_many v_items v_carried) (some (.int r)) args s) (F0 m 69 ls [])) : ∀ (x1 : Int32) (x2 : Int32) (x3 : Int32) (x4 : Int32) (x5 : Int32) (v_planned : Int32) (v_planLine : List Int32) (v_planWay : List Int32) (v_shelf : List Int32) (v_many : List Int32) (v_items : List Int64) (H : Heap) (locs : List Loc) (ls : Array Slot), fX9_plans_228 N k_69 x1 x2 x3 x4 x5 v_planned v_planLine v_planWay v_shelf v_many v_items = some (r, w_planned, w_planLine, w_planWay) → va_P D mm_cl (wd_X9 cI cL cS cH a v_keptMany v_done v_rowsOf v_columnsOf v_folded v_wronged v_tapeMany v_textMany v_base v_at v_ends v_fault v_opened v_bentMany v_bentWrong v_moreWorn v_planned v_allWrong v_allWorn v_z v_wishedField v_isFound v_bestWrong v_bestWorn v_bestMany v_soughtBy v_sought v_soughtAt v_foundMany v_foundOrder v_isKept v_imageRows v_imageColumns v_imageFolded v_imageWronged v_bodies v_ran v_ownKind v_ownNumber v_limit v_changeWas v_changeIs v_shapeRows v_shapeColumns v_row v_column v_below v_face v_worn v_lastBend v_tape v_text v_names v_bends v_high v_to v_pileSize v_planLine v_planWay v_way1 v_bestWay v_order1 v_placeIn v_bodyKind v_trace v_shelf v_many v_items v_carried) H → va_D A (wd_X9 cI cL cS cH a v_keptMany v_done v_rowsOf v_columnsOf v_folded v_wronged v_tapeMany v_textMany v_base v_at v_ends v_fault v_opened v_bentMany v_bentWrong v_moreWorn v_planned v_allWrong v_allWorn v_z v_wishedField v_isFound v_bestWrong v_bestWorn v_bestMany v_soughtBy v_sought v_soughtAt v_foundMany v_foundOrder v_isKept v_imageRows v_imageColumns v_imageFolded v_imageWronged v_bodies v_ran v_ownKind v_ownNumber v_limit v_changeWas v_changeIs v_shapeRows v_shapeColumns v_row v_column v_below v_face v_worn v_lastBend v_tape v_text v_names v_bends v_high v_to v_pileSize v_planLine v_planWay v_way1 v_bestWay v_order1 v_placeIn v_bodyKind v_trace v_shelf v_many v_items v_carried) → va_S A s.heap H locs → lv_has ls 7 [(0, .ref (a 0)), (1, .int x1), (2, .int x2), (3, .int x3), (4, .int x4), (5, .int x5)] → W p l e (mm_rr d) s m args below meth c H locs 0 0 (mm_Z below D A (wd_X9 cI cL cS cH a v_keptMany v_done v_rowsOf v_columnsOf v_folded v_wronged v_tapeMany v_textMany v_base v_at v_ends v_fault v_opened v_bentMany v_bentWrong v_moreWorn w_planned v_allWrong v_allWorn v_z v_wishedField v_isFound v_bestWrong v_bestWorn v_bestMany v_soughtBy v_sought v_soughtAt v_foundMany v_foundOrder v_isKept v_imageRows v_imageColumns v_imageFolded v_imageWronged v_bodies v_ran v_ownKind v_ownNumber v_limit v_changeWas v_changeIs v_shapeRows v_shapeColumns v_row v_column v_below v_face v_worn v_lastBend v_tape v_text v_names v_bends v_high v_to v_pileSize w_planLine w_planWay v_way1 v_bestWay v_order1 v_placeIn v_bodyKind v_trace v_shelf v_many v_items v_carried) (some (.int r)) args s) (F0 m 228 ls []) := by
  obtain ⟨hx, hb, hml, hown, hts, hr, hlocks, hK, hSt⟩ := id C0
  intro x1 x2 x3 x4 x5 v_planned v_planLine v_planWay v_shelf v_many v_items H locs ls hf hP hD hS hl
  unfold fX9_plans_228 at hf
  refine lv_goto (tgt := 69) hx hb dX9_plans_228 (by decide) ?_
  exact hk_69 _ _ _ _ _ _ _ _ _ _ _ H locs ls hf hP hD hS (lv_sub hl [0, 1, 2, 3, 4, 5] rfl)

def fX9_plans_172 (N : Nat) (k_69 : Int32 → Int32 → Int32 → Int32 → Int32 → Int32 → List Int32 → List Int32 → List Int32 → List Int32 → List Int64 → Option (Int32 × Int32 × List Int32 × List Int32)) (x1 : Int32) (x2 : Int32) (x3 : Int32) (x4 : Int32) (x6 : Int32) (s0 : Int32) (v_planned : Int32) (v_planLine : List Int32) (v_planWay : List Int32) (v_shelf : List Int32) (v_many : List Int32) (v_items : List Int64) : Option (Int32 × Int32 × List Int32 × List Int32) :=
    if s0 = 0 then
    (fX9_plans_228 N k_69 x1 x2 x3 x4 s0 v_planned v_planLine v_planWay v_shelf v_many v_items)
    else (mm_ck (mm_inb x6 v_items.length) (mm_nm (((mm_lg v_items x6).toInt32)) (fun (y_31 : Int32) =>
    mm_ck (mm_inb v_planned v_planLine.length) (mm_nm (mm_is v_planLine v_planned y_31) (fun (l_33 : List Int32) =>
    mm_ck (mm_inb (x6 + (1 : Int32)) v_items.length) (mm_nm (((mm_lg v_items (x6 + (1 : Int32))).toInt32)) (fun (y_35 : Int32) =>
    mm_ck (mm_inb v_planned v_planWay.length) (mm_nm (mm_is v_planWay v_planned y_35) (fun (l_37 : List Int32) =>
    mm_nm ((v_planned + (1 : Int32))) (fun (y_38 : Int32) =>
    mm_nm (x4 + (1 : Int32)) (fun (y_39 : Int32) =>
    fX9_plans_228 N k_69 x1 x2 x3 y_39 s0 y_38 l_33 l_37 v_shelf v_many v_items)))))))))))

set_option maxHeartbeats 4000000 in
set_option maxRecDepth 100000 in
theorem tX9_plans_172 {p : Program} {l : Launch} {e : Env} {s : State} {m : MethodId} {args : Array Value} {below : List Frame} {meth : Method} {c : Code} {D : va_G} {cI cL cS cH : ClassId} {A : Nat → Prop} {d : Nat} {a : Nat → Nat} (hd : 3 ≤ d) (C0 : mm_Cx p s m args meth c RX9 cX9_plans 7 (some .int) D (mm_T cI cL cS cH) A) (hA : ∀ q, s.heap.size ≤ q → A q) {v_keptMany : Int32} {v_done : Int32} {v_rowsOf : Int32} {v_columnsOf : Int32} {v_folded : Int32} {v_wronged : Int32} {v_tapeMany : Int32} {v_textMany : Int32} {v_base : Int32} {v_at : Int32} {v_ends : Int32} {v_fault : Int32} {v_opened : Int32} {v_bentMany : Int32} {v_bentWrong : Int32} {v_moreWorn : Int32} {v_allWrong : Int32} {v_allWorn : Int32} {v_z : Int32} {v_wishedField : Int32} {v_isFound : Bool} {v_bestWrong : Int32} {v_bestWorn : Int32} {v_bestMany : Int32} {v_soughtBy : Int32} {v_sought : Int32} {v_soughtAt : Int32} {v_foundMany : Int32} {v_foundOrder : Int32} {v_isKept : Bool} {v_imageRows : Int32} {v_imageColumns : Int32} {v_imageFolded : Int32} {v_imageWronged : Int32} {v_bodies : Int32} {v_ran : Int32} {v_ownKind : Int32} {v_ownNumber : Int32} {v_limit : List Int32} {v_changeWas : List Int32} {v_changeIs : List Int32} {v_shapeRows : List Int32} {v_shapeColumns : List Int32} {v_row : List Int32} {v_column : List Int32} {v_below : List Int32} {v_face : List Int32} {v_worn : List Int32} {v_lastBend : List Int32} {v_tape : List Int32} {v_text : List Int32} {v_names : List Int32} {v_bends : List Int32} {v_high : List Int32} {v_to : List Int32} {v_pileSize : List Int32} {v_way1 : List Int32} {v_bestWay : List Int32} {v_order1 : List Int32} {v_placeIn : List Int32} {v_bodyKind : List Int32} {v_trace : List Int32} {v_carried : List Int64} {r : Int32} {w_planned : Int32} {w_planLine : List Int32} {w_planWay : List Int32} (N : Nat) {k_69 : Int32 → Int32 → Int32 → Int32 → Int32 → Int32 → List Int32 → List Int32 → List Int32 → List Int32 → List Int64 → Option (Int32 × Int32 × List Int32 × List Int32)} (hk_69 : ∀ (x1 : Int32) (x2 : Int32) (x3 : Int32) (x4 : Int32) (x5 : Int32) (v_planned : Int32) (v_planLine : List Int32) (v_planWay : List Int32) (v_shelf : List Int32) (v_many : List Int32) (v_items : List Int64) (H : Heap) (locs : List Loc) (ls : Array Slot), k_69 x1 x2 x3 x4 x5 v_planned v_planLine v_planWay v_shelf v_many v_items = some (r, w_planned, w_planLine, w_planWay) → va_P D mm_cl (wd_X9 cI cL cS cH a v_keptMany v_done v_rowsOf v_columnsOf v_folded v_wronged v_tapeMany v_textMany v_base v_at v_ends v_fault v_opened v_bentMany v_bentWrong v_moreWorn v_planned v_allWrong v_allWorn v_z v_wishedField v_isFound v_bestWrong v_bestWorn v_bestMany v_soughtBy v_sought v_soughtAt v_foundMany v_foundOrder v_isKept v_imageRows v_imageColumns v_imageFolded v_imageWronged v_bodies v_ran v_ownKind v_ownNumber v_limit v_changeWas v_changeIs v_shapeRows v_shapeColumns v_row v_column v_below v_face v_worn v_lastBend v_tape v_text v_names v_bends v_high v_to v_pileSize v_planLine v_planWay v_way1 v_bestWay v_order1 v_placeIn v_bodyKind v_trace v_shelf v_many v_items v_carried) H → va_D A (wd_X9 cI cL cS cH a v_keptMany v_done v_rowsOf v_columnsOf v_folded v_wronged v_tapeMany v_textMany v_base v_at v_ends v_fault v_opened v_bentMany v_bentWrong v_moreWorn v_planned v_allWrong v_allWorn v_z v_wishedField v_isFound v_bestWrong v_bestWorn v_bestMany v_soughtBy v_sought v_soughtAt v_foundMany v_foundOrder v_isKept v_imageRows v_imageColumns v_imageFolded v_imageWronged v_bodies v_ran v_ownKind v_ownNumber v_limit v_changeWas v_changeIs v_shapeRows v_shapeColumns v_row v_column v_below v_face v_worn v_lastBend v_tape v_text v_names v_bends v_high v_to v_pileSize v_planLine v_planWay v_way1 v_bestWay v_order1 v_placeIn v_bodyKind v_trace v_shelf v_many v_items v_carried) → va_S A s.heap H locs → lv_has ls 7 [(0, .ref (a 0)), (1, .int x1), (2, .int x2), (3, .int x3), (4, .int x4), (5, .int x5)] → W p l e (mm_rr d) s m args below meth c H locs 0 0 (mm_Z below D A (wd_X9 cI cL cS cH a v_keptMany v_done v_rowsOf v_columnsOf v_folded v_wronged v_tapeMany v_textMany v_base v_at v_ends v_fault v_opened v_bentMany v_bentWrong v_moreWorn w_planned v_allWrong v_allWorn v_z v_wishedField v_isFound v_bestWrong v_bestWorn v_bestMany v_soughtBy v_sought v_soughtAt v_foundMany v_foundOrder v_isKept v_imageRows v_imageColumns v_imageFolded v_imageWronged v_bodies v_ran v_ownKind v_ownNumber v_limit v_changeWas v_changeIs v_shapeRows v_shapeColumns v_row v_column v_below v_face v_worn v_lastBend v_tape v_text v_names v_bends v_high v_to v_pileSize w_planLine w_planWay v_way1 v_bestWay v_order1 v_placeIn v_bodyKind v_trace v_shelf v_many v_items v_carried) (some (.int r)) args s) (F0 m 69 ls [])) : ∀ (x1 : Int32) (x2 : Int32) (x3 : Int32) (x4 : Int32) (x6 : Int32) (s0 : Int32) (v_planned : Int32) (v_planLine : List Int32) (v_planWay : List Int32) (v_shelf : List Int32) (v_many : List Int32) (v_items : List Int64) (H : Heap) (locs : List Loc) (ls : Array Slot), fX9_plans_172 N k_69 x1 x2 x3 x4 x6 s0 v_planned v_planLine v_planWay v_shelf v_many v_items = some (r, w_planned, w_planLine, w_planWay) → va_P D mm_cl (wd_X9 cI cL cS cH a v_keptMany v_done v_rowsOf v_columnsOf v_folded v_wronged v_tapeMany v_textMany v_base v_at v_ends v_fault v_opened v_bentMany v_bentWrong v_moreWorn v_planned v_allWrong v_allWorn v_z v_wishedField v_isFound v_bestWrong v_bestWorn v_bestMany v_soughtBy v_sought v_soughtAt v_foundMany v_foundOrder v_isKept v_imageRows v_imageColumns v_imageFolded v_imageWronged v_bodies v_ran v_ownKind v_ownNumber v_limit v_changeWas v_changeIs v_shapeRows v_shapeColumns v_row v_column v_below v_face v_worn v_lastBend v_tape v_text v_names v_bends v_high v_to v_pileSize v_planLine v_planWay v_way1 v_bestWay v_order1 v_placeIn v_bodyKind v_trace v_shelf v_many v_items v_carried) H → va_D A (wd_X9 cI cL cS cH a v_keptMany v_done v_rowsOf v_columnsOf v_folded v_wronged v_tapeMany v_textMany v_base v_at v_ends v_fault v_opened v_bentMany v_bentWrong v_moreWorn v_planned v_allWrong v_allWorn v_z v_wishedField v_isFound v_bestWrong v_bestWorn v_bestMany v_soughtBy v_sought v_soughtAt v_foundMany v_foundOrder v_isKept v_imageRows v_imageColumns v_imageFolded v_imageWronged v_bodies v_ran v_ownKind v_ownNumber v_limit v_changeWas v_changeIs v_shapeRows v_shapeColumns v_row v_column v_below v_face v_worn v_lastBend v_tape v_text v_names v_bends v_high v_to v_pileSize v_planLine v_planWay v_way1 v_bestWay v_order1 v_placeIn v_bodyKind v_trace v_shelf v_many v_items v_carried) → va_S A s.heap H locs → lv_has ls 7 [(0, .ref (a 0)), (1, .int x1), (2, .int x2), (3, .int x3), (4, .int x4), (6, .int x6)] → W p l e (mm_rr d) s m args below meth c H locs 0 0 (mm_Z below D A (wd_X9 cI cL cS cH a v_keptMany v_done v_rowsOf v_columnsOf v_folded v_wronged v_tapeMany v_textMany v_base v_at v_ends v_fault v_opened v_bentMany v_bentWrong v_moreWorn w_planned v_allWrong v_allWorn v_z v_wishedField v_isFound v_bestWrong v_bestWorn v_bestMany v_soughtBy v_sought v_soughtAt v_foundMany v_foundOrder v_isKept v_imageRows v_imageColumns v_imageFolded v_imageWronged v_bodies v_ran v_ownKind v_ownNumber v_limit v_changeWas v_changeIs v_shapeRows v_shapeColumns v_row v_column v_below v_face v_worn v_lastBend v_tape v_text v_names v_bends v_high v_to v_pileSize w_planLine w_planWay v_way1 v_bestWay v_order1 v_placeIn v_bodyKind v_trace v_shelf v_many v_items v_carried) (some (.int r)) args s) (F0 m 172 ls [.int s0]) := by
  obtain ⟨hx, hb, hml, hown, hts, hr, hlocks, hK, hSt⟩ := id C0
  intro x1 x2 x3 x4 x6 s0 v_planned v_planLine v_planWay v_shelf v_many v_items H locs ls hf hP hD hS hl
  unfold fX9_plans_172 at hf
  refine lv_istore (lv' := [(5, .int s0), (0, .ref (a 0)), (1, .int x1), (2, .int x2), (3, .int x3), (4, .int x4), (6, .int x6)]) hx hb dX9_plans_172 hl (by decide) rfl (fun ls hl => ?_)
  refine lv_iload hx hb dX9_plans_174 (lv_at hl 0 rfl) ?_
  refine lv_if_eq (tgt := 228) hx hb dX9_plans_176 (by decide) (fun c_29 => ?_) (fun c_29 => ?_)
  · have hf := mm_ip hf c_29
    exact tX9_plans_228 hd C0 hA N hk_69 _ _ _ _ _ _ _ _ _ _ _ H locs ls hf hP hD hS (lv_sub hl [1, 2, 3, 4, 5, 0] rfl)
  · have hf := mm_in hf c_29
    refine lv_aload_n hx hb dX9_plans_179 rfl (lv_at hl 1 rfl) ?_
    refine mm_get C0 hP iw_X9 0 rfl rfl 34 (by decide) fl_X9_64 rfl dX9_plans_180 ?_
    refine lv_aload_n hx hb dX9_plans_183 rfl (lv_at hl 1 rfl) ?_
    refine mm_get C0 hP iw_X9 0 rfl rfl 36 (by decide) fl_X9_271 rfl dX9_plans_184 ?_
    refine lv_aload_n hx hb dX9_plans_187 rfl (lv_at hl 1 rfl) ?_
    refine mm_get C0 hP iw_X9 0 rfl rfl 67 (by decide) fl_X9_94 rfl dX9_plans_188 ?_
    refine lv_iload hx hb dX9_plans_191 (lv_at hl 6 rfl) ?_
    obtain ⟨h_30, hf⟩ := mm_cks hf
    refine mm_lald C0 hP 29 rfl h_30 dX9_plans_193 ?_
    refine lv_l2i hx hb dX9_plans_194 rfl ?_
    refine lv_topi (fun y_31 ey_31 => ?_)
    have hf := mm_nms hf ey_31
    obtain ⟨h_32, hf⟩ := mm_cks hf
    refine mm_iast C0 hP hD hS 19 rfl h_32 dX9_plans_195 (w2 := (wd_X9 cI cL cS cH a v_keptMany v_done v_rowsOf v_columnsOf v_folded v_wronged v_tapeMany v_textMany v_base v_at v_ends v_fault v_opened v_bentMany v_bentWrong v_moreWorn v_planned v_allWrong v_allWorn v_z v_wishedField v_isFound v_bestWrong v_bestWorn v_bestMany v_soughtBy v_sought v_soughtAt v_foundMany v_foundOrder v_isKept v_imageRows v_imageColumns v_imageFolded v_imageWronged v_bodies v_ran v_ownKind v_ownNumber v_limit v_changeWas v_changeIs v_shapeRows v_shapeColumns v_row v_column v_below v_face v_worn v_lastBend v_tape v_text v_names v_bends v_high v_to v_pileSize (mm_is v_planLine v_planned y_31) v_planWay v_way1 v_bestWay v_order1 v_placeIn v_bodyKind v_trace v_shelf v_many v_items v_carried)) rfl (fun H locs hP hD hS => ?_)
    generalize el_33 : (mm_is v_planLine v_planned y_31) = l_33 at hP hD
    have hf := mm_nms hf el_33.symm
    refine lv_aload_n hx hb dX9_plans_196 rfl (lv_at hl 1 rfl) ?_
    refine mm_get C0 hP iw_X9 0 rfl rfl 35 (by decide) fl_X9_67 rfl dX9_plans_197 ?_
    refine lv_aload_n hx hb dX9_plans_200 rfl (lv_at hl 1 rfl) ?_
    refine mm_get C0 hP iw_X9 0 rfl rfl 36 (by decide) fl_X9_271 rfl dX9_plans_201 ?_
    refine lv_aload_n hx hb dX9_plans_204 rfl (lv_at hl 1 rfl) ?_
    refine mm_get C0 hP iw_X9 0 rfl rfl 67 (by decide) fl_X9_94 rfl dX9_plans_205 ?_
    refine lv_iload hx hb dX9_plans_208 (lv_at hl 6 rfl) ?_
    refine lv_iconst (v := 1) hx hb dX9_plans_210 (by decide) ?_
    refine lv_iadd hx hb dX9_plans_211 ?_
    obtain ⟨h_34, hf⟩ := mm_cks hf
    refine mm_lald C0 hP 29 rfl h_34 dX9_plans_212 ?_
    refine lv_l2i hx hb dX9_plans_213 rfl ?_
    refine lv_topi (fun y_35 ey_35 => ?_)
    have hf := mm_nms hf ey_35
    obtain ⟨h_36, hf⟩ := mm_cks hf
    refine mm_iast C0 hP hD hS 20 rfl h_36 dX9_plans_214 (w2 := (wd_X9 cI cL cS cH a v_keptMany v_done v_rowsOf v_columnsOf v_folded v_wronged v_tapeMany v_textMany v_base v_at v_ends v_fault v_opened v_bentMany v_bentWrong v_moreWorn v_planned v_allWrong v_allWorn v_z v_wishedField v_isFound v_bestWrong v_bestWorn v_bestMany v_soughtBy v_sought v_soughtAt v_foundMany v_foundOrder v_isKept v_imageRows v_imageColumns v_imageFolded v_imageWronged v_bodies v_ran v_ownKind v_ownNumber v_limit v_changeWas v_changeIs v_shapeRows v_shapeColumns v_row v_column v_below v_face v_worn v_lastBend v_tape v_text v_names v_bends v_high v_to v_pileSize l_33 (mm_is v_planWay v_planned y_35) v_way1 v_bestWay v_order1 v_placeIn v_bodyKind v_trace v_shelf v_many v_items v_carried)) rfl (fun H locs hP hD hS => ?_)
    generalize el_37 : (mm_is v_planWay v_planned y_35) = l_37 at hP hD
    have hf := mm_nms hf el_37.symm
    refine lv_aload_n hx hb dX9_plans_215 rfl (lv_at hl 1 rfl) ?_
    refine lv_dup hx hb dX9_plans_216 rfl ?_
    refine mm_get C0 hP iw_X9 0 rfl rfl 36 (by decide) fl_X9_271 rfl dX9_plans_217 ?_
    refine lv_iconst (v := 1) hx hb dX9_plans_220 (by decide) ?_
    refine lv_iadd hx hb dX9_plans_221 ?_
    refine lv_topi (fun y_38 ey_38 => ?_)
    have hf := mm_nms hf ey_38
    refine mm_put C0 hP hD hS iw_X9 tyX9 tyX9_ok nmX9 0 rfl rfl 36 (by decide) fl_X9_271 rfl rfl rfl (Nat.le_of_ble_eq_true rfl) dX9_plans_222 (w2 := (wd_X9 cI cL cS cH a v_keptMany v_done v_rowsOf v_columnsOf v_folded v_wronged v_tapeMany v_textMany v_base v_at v_ends v_fault v_opened v_bentMany v_bentWrong v_moreWorn y_38 v_allWrong v_allWorn v_z v_wishedField v_isFound v_bestWrong v_bestWorn v_bestMany v_soughtBy v_sought v_soughtAt v_foundMany v_foundOrder v_isKept v_imageRows v_imageColumns v_imageFolded v_imageWronged v_bodies v_ran v_ownKind v_ownNumber v_limit v_changeWas v_changeIs v_shapeRows v_shapeColumns v_row v_column v_below v_face v_worn v_lastBend v_tape v_text v_names v_bends v_high v_to v_pileSize l_33 l_37 v_way1 v_bestWay v_order1 v_placeIn v_bodyKind v_trace v_shelf v_many v_items v_carried)) rfl (fun H locs hP hD hS => ?_)
    obtain ⟨y_39, ey_39⟩ : ∃ z : Int32, z = x4 + (1 : Int32) := ⟨_, rfl⟩
    have hf := mm_nms hf ey_39
    refine lv_iinc (v := y_39) (lv' := [(4, .int y_39), (5, .int s0), (0, .ref (a 0)), (1, .int x1), (2, .int x2), (3, .int x3), (6, .int x6)]) hx hb dX9_plans_225 hl (k := 5) rfl (by rw [ey_39]; rfl) (by decide) rfl (fun ls hl => ?_)
    exact tX9_plans_228 hd C0 hA N hk_69 _ _ _ _ _ _ _ _ _ _ _ H locs ls hf hP hD hS (lv_sub hl [2, 3, 4, 5, 0, 1] rfl)

def fX9_plans_171 (N : Nat) (k_69 : Int32 → Int32 → Int32 → Int32 → Int32 → Int32 → List Int32 → List Int32 → List Int32 → List Int32 → List Int64 → Option (Int32 × Int32 × List Int32 × List Int32)) (x1 : Int32) (x2 : Int32) (x3 : Int32) (x4 : Int32) (x6 : Int32) (v_planned : Int32) (v_planLine : List Int32) (v_planWay : List Int32) (v_shelf : List Int32) (v_many : List Int32) (v_items : List Int64) : Option (Int32 × Int32 × List Int32 × List Int32) :=
    fX9_plans_172 N k_69 x1 x2 x3 x4 x6 (0 : Int32) v_planned v_planLine v_planWay v_shelf v_many v_items

set_option maxHeartbeats 4000000 in
set_option maxRecDepth 100000 in
theorem tX9_plans_171 {p : Program} {l : Launch} {e : Env} {s : State} {m : MethodId} {args : Array Value} {below : List Frame} {meth : Method} {c : Code} {D : va_G} {cI cL cS cH : ClassId} {A : Nat → Prop} {d : Nat} {a : Nat → Nat} (hd : 3 ≤ d) (C0 : mm_Cx p s m args meth c RX9 cX9_plans 7 (some .int) D (mm_T cI cL cS cH) A) (hA : ∀ q, s.heap.size ≤ q → A q) {v_keptMany : Int32} {v_done : Int32} {v_rowsOf : Int32} {v_columnsOf : Int32} {v_folded : Int32} {v_wronged : Int32} {v_tapeMany : Int32} {v_textMany : Int32} {v_base : Int32} {v_at : Int32} {v_ends : Int32} {v_fault : Int32} {v_opened : Int32} {v_bentMany : Int32} {v_bentWrong : Int32} {v_moreWorn : Int32} {v_allWrong : Int32} {v_allWorn : Int32} {v_z : Int32} {v_wishedField : Int32} {v_isFound : Bool} {v_bestWrong : Int32} {v_bestWorn : Int32} {v_bestMany : Int32} {v_soughtBy : Int32} {v_sought : Int32} {v_soughtAt : Int32} {v_foundMany : Int32} {v_foundOrder : Int32} {v_isKept : Bool} {v_imageRows : Int32} {v_imageColumns : Int32} {v_imageFolded : Int32} {v_imageWronged : Int32} {v_bodies : Int32} {v_ran : Int32} {v_ownKind : Int32} {v_ownNumber : Int32} {v_limit : List Int32} {v_changeWas : List Int32} {v_changeIs : List Int32} {v_shapeRows : List Int32} {v_shapeColumns : List Int32} {v_row : List Int32} {v_column : List Int32} {v_below : List Int32} {v_face : List Int32} {v_worn : List Int32} {v_lastBend : List Int32} {v_tape : List Int32} {v_text : List Int32} {v_names : List Int32} {v_bends : List Int32} {v_high : List Int32} {v_to : List Int32} {v_pileSize : List Int32} {v_way1 : List Int32} {v_bestWay : List Int32} {v_order1 : List Int32} {v_placeIn : List Int32} {v_bodyKind : List Int32} {v_trace : List Int32} {v_carried : List Int64} {r : Int32} {w_planned : Int32} {w_planLine : List Int32} {w_planWay : List Int32} (N : Nat) {k_69 : Int32 → Int32 → Int32 → Int32 → Int32 → Int32 → List Int32 → List Int32 → List Int32 → List Int32 → List Int64 → Option (Int32 × Int32 × List Int32 × List Int32)} (hk_69 : ∀ (x1 : Int32) (x2 : Int32) (x3 : Int32) (x4 : Int32) (x5 : Int32) (v_planned : Int32) (v_planLine : List Int32) (v_planWay : List Int32) (v_shelf : List Int32) (v_many : List Int32) (v_items : List Int64) (H : Heap) (locs : List Loc) (ls : Array Slot), k_69 x1 x2 x3 x4 x5 v_planned v_planLine v_planWay v_shelf v_many v_items = some (r, w_planned, w_planLine, w_planWay) → va_P D mm_cl (wd_X9 cI cL cS cH a v_keptMany v_done v_rowsOf v_columnsOf v_folded v_wronged v_tapeMany v_textMany v_base v_at v_ends v_fault v_opened v_bentMany v_bentWrong v_moreWorn v_planned v_allWrong v_allWorn v_z v_wishedField v_isFound v_bestWrong v_bestWorn v_bestMany v_soughtBy v_sought v_soughtAt v_foundMany v_foundOrder v_isKept v_imageRows v_imageColumns v_imageFolded v_imageWronged v_bodies v_ran v_ownKind v_ownNumber v_limit v_changeWas v_changeIs v_shapeRows v_shapeColumns v_row v_column v_below v_face v_worn v_lastBend v_tape v_text v_names v_bends v_high v_to v_pileSize v_planLine v_planWay v_way1 v_bestWay v_order1 v_placeIn v_bodyKind v_trace v_shelf v_many v_items v_carried) H → va_D A (wd_X9 cI cL cS cH a v_keptMany v_done v_rowsOf v_columnsOf v_folded v_wronged v_tapeMany v_textMany v_base v_at v_ends v_fault v_opened v_bentMany v_bentWrong v_moreWorn v_planned v_allWrong v_allWorn v_z v_wishedField v_isFound v_bestWrong v_bestWorn v_bestMany v_soughtBy v_sought v_soughtAt v_foundMany v_foundOrder v_isKept v_imageRows v_imageColumns v_imageFolded v_imageWronged v_bodies v_ran v_ownKind v_ownNumber v_limit v_changeWas v_changeIs v_shapeRows v_shapeColumns v_row v_column v_below v_face v_worn v_lastBend v_tape v_text v_names v_bends v_high v_to v_pileSize v_planLine v_planWay v_way1 v_bestWay v_order1 v_placeIn v_bodyKind v_trace v_shelf v_many v_items v_carried) → va_S A s.heap H locs → lv_has ls 7 [(0, .ref (a 0)), (1, .int x1), (2, .int x2), (3, .int x3), (4, .int x4), (5, .int x5)] → W p l e (mm_rr d) s m args below meth c H locs 0 0 (mm_Z below D A (wd_X9 cI cL cS cH a v_keptMany v_done v_rowsOf v_columnsOf v_folded v_wronged v_tapeMany v_textMany v_base v_at v_ends v_fault v_opened v_bentMany v_bentWrong v_moreWorn w_planned v_allWrong v_allWorn v_z v_wishedField v_isFound v_bestWrong v_bestWorn v_bestMany v_soughtBy v_sought v_soughtAt v_foundMany v_foundOrder v_isKept v_imageRows v_imageColumns v_imageFolded v_imageWronged v_bodies v_ran v_ownKind v_ownNumber v_limit v_changeWas v_changeIs v_shapeRows v_shapeColumns v_row v_column v_below v_face v_worn v_lastBend v_tape v_text v_names v_bends v_high v_to v_pileSize w_planLine w_planWay v_way1 v_bestWay v_order1 v_placeIn v_bodyKind v_trace v_shelf v_many v_items v_carried) (some (.int r)) args s) (F0 m 69 ls [])) : ∀ (x1 : Int32) (x2 : Int32) (x3 : Int32) (x4 : Int32) (x6 : Int32) (v_planned : Int32) (v_planLine : List Int32) (v_planWay : List Int32) (v_shelf : List Int32) (v_many : List Int32) (v_items : List Int64) (H : Heap) (locs : List Loc) (ls : Array Slot), fX9_plans_171 N k_69 x1 x2 x3 x4 x6 v_planned v_planLine v_planWay v_shelf v_many v_items = some (r, w_planned, w_planLine, w_planWay) → va_P D mm_cl (wd_X9 cI cL cS cH a v_keptMany v_done v_rowsOf v_columnsOf v_folded v_wronged v_tapeMany v_textMany v_base v_at v_ends v_fault v_opened v_bentMany v_bentWrong v_moreWorn v_planned v_allWrong v_allWorn v_z v_wishedField v_isFound v_bestWrong v_bestWorn v_bestMany v_soughtBy v_sought v_soughtAt v_foundMany v_foundOrder v_isKept v_imageRows v_imageColumns v_imageFolded v_imageWronged v_bodies v_ran v_ownKind v_ownNumber v_limit v_changeWas v_changeIs v_shapeRows v_shapeColumns v_row v_column v_below v_face v_worn v_lastBend v_tape v_text v_names v_bends v_high v_to v_pileSize v_planLine v_planWay v_way1 v_bestWay v_order1 v_placeIn v_bodyKind v_trace v_shelf v_many v_items v_carried) H → va_D A (wd_X9 cI cL cS cH a v_keptMany v_done v_rowsOf v_columnsOf v_folded v_wronged v_tapeMany v_textMany v_base v_at v_ends v_fault v_opened v_bentMany v_bentWrong v_moreWorn v_planned v_allWrong v_allWorn v_z v_wishedField v_isFound v_bestWrong v_bestWorn v_bestMany v_soughtBy v_sought v_soughtAt v_foundMany v_foundOrder v_isKept v_imageRows v_imageColumns v_imageFolded v_imageWronged v_bodies v_ran v_ownKind v_ownNumber v_limit v_changeWas v_changeIs v_shapeRows v_shapeColumns v_row v_column v_below v_face v_worn v_lastBend v_tape v_text v_names v_bends v_high v_to v_pileSize v_planLine v_planWay v_way1 v_bestWay v_order1 v_placeIn v_bodyKind v_trace v_shelf v_many v_items v_carried) → va_S A s.heap H locs → lv_has ls 7 [(0, .ref (a 0)), (1, .int x1), (2, .int x2), (3, .int x3), (4, .int x4), (6, .int x6)] → W p l e (mm_rr d) s m args below meth c H locs 0 0 (mm_Z below D A (wd_X9 cI cL cS cH a v_keptMany v_done v_rowsOf v_columnsOf v_folded v_wronged v_tapeMany v_textMany v_base v_at v_ends v_fault v_opened v_bentMany v_bentWrong v_moreWorn w_planned v_allWrong v_allWorn v_z v_wishedField v_isFound v_bestWrong v_bestWorn v_bestMany v_soughtBy v_sought v_soughtAt v_foundMany v_foundOrder v_isKept v_imageRows v_imageColumns v_imageFolded v_imageWronged v_bodies v_ran v_ownKind v_ownNumber v_limit v_changeWas v_changeIs v_shapeRows v_shapeColumns v_row v_column v_below v_face v_worn v_lastBend v_tape v_text v_names v_bends v_high v_to v_pileSize w_planLine w_planWay v_way1 v_bestWay v_order1 v_placeIn v_bodyKind v_trace v_shelf v_many v_items v_carried) (some (.int r)) args s) (F0 m 171 ls []) := by
  obtain ⟨hx, hb, hml, hown, hts, hr, hlocks, hK, hSt⟩ := id C0
  intro x1 x2 x3 x4 x6 v_planned v_planLine v_planWay v_shelf v_many v_items H locs ls hf hP hD hS hl
  unfold fX9_plans_171 at hf
  refine lv_iconst (v := 0) hx hb dX9_plans_171 (by decide) ?_
  exact tX9_plans_172 hd C0 hA N hk_69 _ _ _ _ _ _ _ _ _ _ _ _ H locs ls hf hP hD hS (lv_sub hl [0, 1, 2, 3, 4, 5] rfl)

def fX9_plans_111 (N : Nat) (k_69 : Int32 → Int32 → Int32 → Int32 → Int32 → Int32 → List Int32 → List Int32 → List Int32 → List Int32 → List Int64 → Option (Int32 × Int32 × List Int32 × List Int32)) (x1 : Int32) (x2 : Int32) (x3 : Int32) (x4 : Int32) (s0 : Int32) (v_planned : Int32) (v_planLine : List Int32) (v_planWay : List Int32) (v_shelf : List Int32) (v_many : List Int32) (v_items : List Int64) : Option (Int32 × Int32 × List Int32 × List Int32) :=
    mm_nm (((((60 : Int32) * x1) + x2) + ((2 : Int32) * x4))) (fun (y_19 : Int32) =>
    if s0 = 0 then
    (fX9_plans_171 N k_69 x1 x2 x3 x4 y_19 v_planned v_planLine v_planWay v_shelf v_many v_items)
    else (mm_ck (mm_inb y_19 v_items.length) (mm_bd1 (fX9_within N (mm_lg v_items y_19) (1 : Int64) (7 : Int64)) (fun (r_22 : Bool) =>
    if r_22 = false then
    (fX9_plans_171 N k_69 x1 x2 x3 x4 y_19 v_planned v_planLine v_planWay v_shelf v_many v_items)
    else (mm_ck (mm_inb (y_19 + (1 : Int32)) v_items.length) (mm_bd1 (fX9_within N (mm_lg v_items (y_19 + (1 : Int32))) (0 : Int64) (7 : Int64)) (fun (r_26 : Bool) =>
    if r_26 = false then
    (fX9_plans_171 N k_69 x1 x2 x3 x4 y_19 v_planned v_planLine v_planWay v_shelf v_many v_items)
    else (fX9_plans_172 N k_69 x1 x2 x3 x4 y_19 (1 : Int32) v_planned v_planLine v_planWay v_shelf v_many v_items))))))))

set_option maxHeartbeats 4000000 in
set_option maxRecDepth 100000 in
theorem tX9_plans_111 {p : Program} {l : Launch} {e : Env} {s : State} {m : MethodId} {args : Array Value} {below : List Frame} {meth : Method} {c : Code} {D : va_G} {cI cL cS cH : ClassId} {A : Nat → Prop} {d : Nat} {a : Nat → Nat} (hd : 3 ≤ d) (C0 : mm_Cx p s m args meth c RX9 cX9_plans 7 (some .int) D (mm_T cI cL cS cH) A) (hA : ∀ q, s.heap.size ≤ q → A q) {v_keptMany : Int32} {v_done : Int32} {v_rowsOf : Int32} {v_columnsOf : Int32} {v_folded : Int32} {v_wronged : Int32} {v_tapeMany : Int32} {v_textMany : Int32} {v_base : Int32} {v_at : Int32} {v_ends : Int32} {v_fault : Int32} {v_opened : Int32} {v_bentMany : Int32} {v_bentWrong : Int32} {v_moreWorn : Int32} {v_allWrong : Int32} {v_allWorn : Int32} {v_z : Int32} {v_wishedField : Int32} {v_isFound : Bool} {v_bestWrong : Int32} {v_bestWorn : Int32} {v_bestMany : Int32} {v_soughtBy : Int32} {v_sought : Int32} {v_soughtAt : Int32} {v_foundMany : Int32} {v_foundOrder : Int32} {v_isKept : Bool} {v_imageRows : Int32} {v_imageColumns : Int32} {v_imageFolded : Int32} {v_imageWronged : Int32} {v_bodies : Int32} {v_ran : Int32} {v_ownKind : Int32} {v_ownNumber : Int32} {v_limit : List Int32} {v_changeWas : List Int32} {v_changeIs : List Int32} {v_shapeRows : List Int32} {v_shapeColumns : List Int32} {v_row : List Int32} {v_column : List Int32} {v_below : List Int32} {v_face : List Int32} {v_worn : List Int32} {v_lastBend : List Int32} {v_tape : List Int32} {v_text : List Int32} {v_names : List Int32} {v_bends : List Int32} {v_high : List Int32} {v_to : List Int32} {v_pileSize : List Int32} {v_way1 : List Int32} {v_bestWay : List Int32} {v_order1 : List Int32} {v_placeIn : List Int32} {v_bodyKind : List Int32} {v_trace : List Int32} {v_carried : List Int64} {r : Int32} {w_planned : Int32} {w_planLine : List Int32} {w_planWay : List Int32} (N : Nat) {k_69 : Int32 → Int32 → Int32 → Int32 → Int32 → Int32 → List Int32 → List Int32 → List Int32 → List Int32 → List Int64 → Option (Int32 × Int32 × List Int32 × List Int32)} (hk_69 : ∀ (x1 : Int32) (x2 : Int32) (x3 : Int32) (x4 : Int32) (x5 : Int32) (v_planned : Int32) (v_planLine : List Int32) (v_planWay : List Int32) (v_shelf : List Int32) (v_many : List Int32) (v_items : List Int64) (H : Heap) (locs : List Loc) (ls : Array Slot), k_69 x1 x2 x3 x4 x5 v_planned v_planLine v_planWay v_shelf v_many v_items = some (r, w_planned, w_planLine, w_planWay) → va_P D mm_cl (wd_X9 cI cL cS cH a v_keptMany v_done v_rowsOf v_columnsOf v_folded v_wronged v_tapeMany v_textMany v_base v_at v_ends v_fault v_opened v_bentMany v_bentWrong v_moreWorn v_planned v_allWrong v_allWorn v_z v_wishedField v_isFound v_bestWrong v_bestWorn v_bestMany v_soughtBy v_sought v_soughtAt v_foundMany v_foundOrder v_isKept v_imageRows v_imageColumns v_imageFolded v_imageWronged v_bodies v_ran v_ownKind v_ownNumber v_limit v_changeWas v_changeIs v_shapeRows v_shapeColumns v_row v_column v_below v_face v_worn v_lastBend v_tape v_text v_names v_bends v_high v_to v_pileSize v_planLine v_planWay v_way1 v_bestWay v_order1 v_placeIn v_bodyKind v_trace v_shelf v_many v_items v_carried) H → va_D A (wd_X9 cI cL cS cH a v_keptMany v_done v_rowsOf v_columnsOf v_folded v_wronged v_tapeMany v_textMany v_base v_at v_ends v_fault v_opened v_bentMany v_bentWrong v_moreWorn v_planned v_allWrong v_allWorn v_z v_wishedField v_isFound v_bestWrong v_bestWorn v_bestMany v_soughtBy v_sought v_soughtAt v_foundMany v_foundOrder v_isKept v_imageRows v_imageColumns v_imageFolded v_imageWronged v_bodies v_ran v_ownKind v_ownNumber v_limit v_changeWas v_changeIs v_shapeRows v_shapeColumns v_row v_column v_below v_face v_worn v_lastBend v_tape v_text v_names v_bends v_high v_to v_pileSize v_planLine v_planWay v_way1 v_bestWay v_order1 v_placeIn v_bodyKind v_trace v_shelf v_many v_items v_carried) → va_S A s.heap H locs → lv_has ls 7 [(0, .ref (a 0)), (1, .int x1), (2, .int x2), (3, .int x3), (4, .int x4), (5, .int x5)] → W p l e (mm_rr d) s m args below meth c H locs 0 0 (mm_Z below D A (wd_X9 cI cL cS cH a v_keptMany v_done v_rowsOf v_columnsOf v_folded v_wronged v_tapeMany v_textMany v_base v_at v_ends v_fault v_opened v_bentMany v_bentWrong v_moreWorn w_planned v_allWrong v_allWorn v_z v_wishedField v_isFound v_bestWrong v_bestWorn v_bestMany v_soughtBy v_sought v_soughtAt v_foundMany v_foundOrder v_isKept v_imageRows v_imageColumns v_imageFolded v_imageWronged v_bodies v_ran v_ownKind v_ownNumber v_limit v_changeWas v_changeIs v_shapeRows v_shapeColumns v_row v_column v_below v_face v_worn v_lastBend v_tape v_text v_names v_bends v_high v_to v_pileSize w_planLine w_planWay v_way1 v_bestWay v_order1 v_placeIn v_bodyKind v_trace v_shelf v_many v_items v_carried) (some (.int r)) args s) (F0 m 69 ls [])) : ∀ (x1 : Int32) (x2 : Int32) (x3 : Int32) (x4 : Int32) (s0 : Int32) (v_planned : Int32) (v_planLine : List Int32) (v_planWay : List Int32) (v_shelf : List Int32) (v_many : List Int32) (v_items : List Int64) (H : Heap) (locs : List Loc) (ls : Array Slot), fX9_plans_111 N k_69 x1 x2 x3 x4 s0 v_planned v_planLine v_planWay v_shelf v_many v_items = some (r, w_planned, w_planLine, w_planWay) → va_P D mm_cl (wd_X9 cI cL cS cH a v_keptMany v_done v_rowsOf v_columnsOf v_folded v_wronged v_tapeMany v_textMany v_base v_at v_ends v_fault v_opened v_bentMany v_bentWrong v_moreWorn v_planned v_allWrong v_allWorn v_z v_wishedField v_isFound v_bestWrong v_bestWorn v_bestMany v_soughtBy v_sought v_soughtAt v_foundMany v_foundOrder v_isKept v_imageRows v_imageColumns v_imageFolded v_imageWronged v_bodies v_ran v_ownKind v_ownNumber v_limit v_changeWas v_changeIs v_shapeRows v_shapeColumns v_row v_column v_below v_face v_worn v_lastBend v_tape v_text v_names v_bends v_high v_to v_pileSize v_planLine v_planWay v_way1 v_bestWay v_order1 v_placeIn v_bodyKind v_trace v_shelf v_many v_items v_carried) H → va_D A (wd_X9 cI cL cS cH a v_keptMany v_done v_rowsOf v_columnsOf v_folded v_wronged v_tapeMany v_textMany v_base v_at v_ends v_fault v_opened v_bentMany v_bentWrong v_moreWorn v_planned v_allWrong v_allWorn v_z v_wishedField v_isFound v_bestWrong v_bestWorn v_bestMany v_soughtBy v_sought v_soughtAt v_foundMany v_foundOrder v_isKept v_imageRows v_imageColumns v_imageFolded v_imageWronged v_bodies v_ran v_ownKind v_ownNumber v_limit v_changeWas v_changeIs v_shapeRows v_shapeColumns v_row v_column v_below v_face v_worn v_lastBend v_tape v_text v_names v_bends v_high v_to v_pileSize v_planLine v_planWay v_way1 v_bestWay v_order1 v_placeIn v_bodyKind v_trace v_shelf v_many v_items v_carried) → va_S A s.heap H locs → lv_has ls 7 [(0, .ref (a 0)), (1, .int x1), (2, .int x2), (3, .int x3), (4, .int x4)] → W p l e (mm_rr d) s m args below meth c H locs 0 0 (mm_Z below D A (wd_X9 cI cL cS cH a v_keptMany v_done v_rowsOf v_columnsOf v_folded v_wronged v_tapeMany v_textMany v_base v_at v_ends v_fault v_opened v_bentMany v_bentWrong v_moreWorn w_planned v_allWrong v_allWorn v_z v_wishedField v_isFound v_bestWrong v_bestWorn v_bestMany v_soughtBy v_sought v_soughtAt v_foundMany v_foundOrder v_isKept v_imageRows v_imageColumns v_imageFolded v_imageWronged v_bodies v_ran v_ownKind v_ownNumber v_limit v_changeWas v_changeIs v_shapeRows v_shapeColumns v_row v_column v_below v_face v_worn v_lastBend v_tape v_text v_names v_bends v_high v_to v_pileSize w_planLine w_planWay v_way1 v_bestWay v_order1 v_placeIn v_bodyKind v_trace v_shelf v_many v_items v_carried) (some (.int r)) args s) (F0 m 111 ls [.int s0]) := by
  obtain ⟨hx, hb, hml, hown, hts, hr, hlocks, hK, hSt⟩ := id C0
  intro x1 x2 x3 x4 s0 v_planned v_planLine v_planWay v_shelf v_many v_items H locs ls hf hP hD hS hl
  unfold fX9_plans_111 at hf
  refine lv_istore (lv' := [(5, .int s0), (0, .ref (a 0)), (1, .int x1), (2, .int x2), (3, .int x3), (4, .int x4)]) hx hb dX9_plans_111 hl (by decide) rfl (fun ls hl => ?_)
  refine lv_bipush (v := 60) hx hb dX9_plans_113 (by decide) ?_
  refine lv_iload_n hx hb dX9_plans_115 rfl (lv_at hl 2 rfl) ?_
  refine lv_imul hx hb dX9_plans_116 ?_
  refine lv_iload_n hx hb dX9_plans_117 rfl (lv_at hl 3 rfl) ?_
  refine lv_iadd hx hb dX9_plans_118 ?_
  refine lv_iconst (v := 2) hx hb dX9_plans_119 (by decide) ?_
  refine lv_iload hx hb dX9_plans_120 (lv_at hl 5 rfl) ?_
  refine lv_imul hx hb dX9_plans_122 ?_
  refine lv_iadd hx hb dX9_plans_123 ?_
  refine lv_topi (fun y_19 ey_19 => ?_)
  have hf := mm_nms hf ey_19
  refine lv_istore (lv' := [(6, .int y_19), (5, .int s0), (0, .ref (a 0)), (1, .int x1), (2, .int x2), (3, .int x3), (4, .int x4)]) hx hb dX9_plans_124 hl (by decide) rfl (fun ls hl => ?_)
  refine lv_iload hx hb dX9_plans_126 (lv_at hl 1 rfl) ?_
  refine lv_if_eq (tgt := 171) hx hb dX9_plans_128 (by decide) (fun c_20 => ?_) (fun c_20 => ?_)
  · have hf := mm_ip hf c_20
    exact tX9_plans_171 hd C0 hA N hk_69 _ _ _ _ _ _ _ _ _ _ _ H locs ls hf hP hD hS (lv_sub hl [2, 3, 4, 5, 6, 0] rfl)
  · have hf := mm_in hf c_20
    refine lv_aload_n hx hb dX9_plans_131 rfl (lv_at hl 2 rfl) ?_
    refine mm_get C0 hP iw_X9 0 rfl rfl 67 (by decide) fl_X9_94 rfl dX9_plans_132 ?_
    refine lv_iload hx hb dX9_plans_135 (lv_at hl 0 rfl) ?_
    obtain ⟨h_21, hf⟩ := mm_cks hf
    refine mm_lald C0 hP 29 rfl h_21 dX9_plans_137 ?_
    refine lv_lconst (v := 1) hx hb dX9_plans_138 (by decide) ?_
    refine lv_ldc2 hx hb hown (hts _ kc_X9_238) dX9_plans_139 ?_
    obtain ⟨r_22, hc_23, hf⟩ := mm_bd1s hf
    refine mm_callS0 (rest := []) C0 lk_X9_111 (ctX9_within (d := d - 1) (by omega) hc_23) (by omega) rfl hl.1 rfl (mm_cat rfl) dX9_plans_142 hP hD hA hS (fun H locs hP hS => ?_)
    refine W.eq (g2 := F0 m 145 ls [.int (mm_b r_22)]) rfl ?_
    refine lv_if_eq (tgt := 171) hx hb dX9_plans_145 (by decide) (fun c_24 => ?_) (fun c_24 => ?_)
    · have hf := mm_ip hf (mm_b0 c_24)
      exact tX9_plans_171 hd C0 hA N hk_69 _ _ _ _ _ _ _ _ _ _ _ H locs ls hf hP hD hS (lv_sub hl [2, 3, 4, 5, 6, 0] rfl)
    · have hf := mm_in hf (mm_b1 c_24)
      refine lv_aload_n hx hb dX9_plans_148 rfl (lv_at hl 2 rfl) ?_
      refine mm_get C0 hP iw_X9 0 rfl rfl 67 (by decide) fl_X9_94 rfl dX9_plans_149 ?_
      refine lv_iload hx hb dX9_plans_152 (lv_at hl 0 rfl) ?_
      refine lv_iconst (v := 1) hx hb dX9_plans_154 (by decide) ?_
      refine lv_iadd hx hb dX9_plans_155 ?_
      obtain ⟨h_25, hf⟩ := mm_cks hf
      refine mm_lald C0 hP 29 rfl h_25 dX9_plans_156 ?_
      refine lv_lconst (v := 0) hx hb dX9_plans_157 (by decide) ?_
      refine lv_ldc2 hx hb hown (hts _ kc_X9_238) dX9_plans_158 ?_
      obtain ⟨r_26, hc_27, hf⟩ := mm_bd1s hf
      refine mm_callS0 (rest := []) C0 lk_X9_111 (ctX9_within (d := d - 1) (by omega) hc_27) (by omega) rfl hl.1 rfl (mm_cat rfl) dX9_plans_161 hP hD hA hS (fun H locs hP hS => ?_)
      refine W.eq (g2 := F0 m 164 ls [.int (mm_b r_26)]) rfl ?_
      refine lv_if_eq (tgt := 171) hx hb dX9_plans_164 (by decide) (fun c_28 => ?_) (fun c_28 => ?_)
      · have hf := mm_ip hf (mm_b0 c_28)
        exact tX9_plans_171 hd C0 hA N hk_69 _ _ _ _ _ _ _ _ _ _ _ H locs ls hf hP hD hS (lv_sub hl [2, 3, 4, 5, 6, 0] rfl)
      · have hf := mm_in hf (mm_b1 c_28)
        refine lv_iconst (v := 1) hx hb dX9_plans_167 (by decide) ?_
        refine lv_goto (tgt := 172) hx hb dX9_plans_168 (by decide) ?_
        exact tX9_plans_172 hd C0 hA N hk_69 _ _ _ _ _ _ _ _ _ _ _ _ H locs ls hf hP hD hS (lv_sub hl [2, 3, 4, 5, 6, 0] rfl)

def fX9_plans_110 (N : Nat) (k_69 : Int32 → Int32 → Int32 → Int32 → Int32 → Int32 → List Int32 → List Int32 → List Int32 → List Int32 → List Int64 → Option (Int32 × Int32 × List Int32 × List Int32)) (x1 : Int32) (x2 : Int32) (x3 : Int32) (x4 : Int32) (v_planned : Int32) (v_planLine : List Int32) (v_planWay : List Int32) (v_shelf : List Int32) (v_many : List Int32) (v_items : List Int64) : Option (Int32 × Int32 × List Int32 × List Int32) :=
    fX9_plans_111 N k_69 x1 x2 x3 x4 (0 : Int32) v_planned v_planLine v_planWay v_shelf v_many v_items

set_option maxHeartbeats 4000000 in
set_option maxRecDepth 100000 in
theorem tX9_plans_110 {p : Program} {l : Launch} {e : Env} {s : State} {m : MethodId} {args : Array Value} {below : List Frame} {meth : Method} {c : Code} {D : va_G} {cI cL cS cH : ClassId} {A : Nat → Prop} {d : Nat} {a : Nat → Nat} (hd : 3 ≤ d) (C0 : mm_Cx p s m args meth c RX9 cX9_plans 7 (some .int) D (mm_T cI cL cS cH) A) (hA : ∀ q, s.heap.size ≤ q → A q) {v_keptMany : Int32} {v_done : Int32} {v_rowsOf : Int32} {v_columnsOf : Int32} {v_folded : Int32} {v_wronged : Int32} {v_tapeMany : Int32} {v_textMany : Int32} {v_base : Int32} {v_at : Int32} {v_ends : Int32} {v_fault : Int32} {v_opened : Int32} {v_bentMany : Int32} {v_bentWrong : Int32} {v_moreWorn : Int32} {v_allWrong : Int32} {v_allWorn : Int32} {v_z : Int32} {v_wishedField : Int32} {v_isFound : Bool} {v_bestWrong : Int32} {v_bestWorn : Int32} {v_bestMany : Int32} {v_soughtBy : Int32} {v_sought : Int32} {v_soughtAt : Int32} {v_foundMany : Int32} {v_foundOrder : Int32} {v_isKept : Bool} {v_imageRows : Int32} {v_imageColumns : Int32} {v_imageFolded : Int32} {v_imageWronged : Int32} {v_bodies : Int32} {v_ran : Int32} {v_ownKind : Int32} {v_ownNumber : Int32} {v_limit : List Int32} {v_changeWas : List Int32} {v_changeIs : List Int32} {v_shapeRows : List Int32} {v_shapeColumns : List Int32} {v_row : List Int32} {v_column : List Int32} {v_below : List Int32} {v_face : List Int32} {v_worn : List Int32} {v_lastBend : List Int32} {v_tape : List Int32} {v_text : List Int32} {v_names : List Int32} {v_bends : List Int32} {v_high : List Int32} {v_to : List Int32} {v_pileSize : List Int32} {v_way1 : List Int32} {v_bestWay : List Int32} {v_order1 : List Int32} {v_placeIn : List Int32} {v_bodyKind : List Int32} {v_trace : List Int32} {v_carried : List Int64} {r : Int32} {w_planned : Int32} {w_planLine : List Int32} {w_planWay : List Int32} (N : Nat) {k_69 : Int32 → Int32 → Int32 → Int32 → Int32 → Int32 → List Int32 → List Int32 → List Int32 → List Int32 → List Int64 → Option (Int32 × Int32 × List Int32 × List Int32)} (hk_69 : ∀ (x1 : Int32) (x2 : Int32) (x3 : Int32) (x4 : Int32) (x5 : Int32) (v_planned : Int32) (v_planLine : List Int32) (v_planWay : List Int32) (v_shelf : List Int32) (v_many : List Int32) (v_items : List Int64) (H : Heap) (locs : List Loc) (ls : Array Slot), k_69 x1 x2 x3 x4 x5 v_planned v_planLine v_planWay v_shelf v_many v_items = some (r, w_planned, w_planLine, w_planWay) → va_P D mm_cl (wd_X9 cI cL cS cH a v_keptMany v_done v_rowsOf v_columnsOf v_folded v_wronged v_tapeMany v_textMany v_base v_at v_ends v_fault v_opened v_bentMany v_bentWrong v_moreWorn v_planned v_allWrong v_allWorn v_z v_wishedField v_isFound v_bestWrong v_bestWorn v_bestMany v_soughtBy v_sought v_soughtAt v_foundMany v_foundOrder v_isKept v_imageRows v_imageColumns v_imageFolded v_imageWronged v_bodies v_ran v_ownKind v_ownNumber v_limit v_changeWas v_changeIs v_shapeRows v_shapeColumns v_row v_column v_below v_face v_worn v_lastBend v_tape v_text v_names v_bends v_high v_to v_pileSize v_planLine v_planWay v_way1 v_bestWay v_order1 v_placeIn v_bodyKind v_trace v_shelf v_many v_items v_carried) H → va_D A (wd_X9 cI cL cS cH a v_keptMany v_done v_rowsOf v_columnsOf v_folded v_wronged v_tapeMany v_textMany v_base v_at v_ends v_fault v_opened v_bentMany v_bentWrong v_moreWorn v_planned v_allWrong v_allWorn v_z v_wishedField v_isFound v_bestWrong v_bestWorn v_bestMany v_soughtBy v_sought v_soughtAt v_foundMany v_foundOrder v_isKept v_imageRows v_imageColumns v_imageFolded v_imageWronged v_bodies v_ran v_ownKind v_ownNumber v_limit v_changeWas v_changeIs v_shapeRows v_shapeColumns v_row v_column v_below v_face v_worn v_lastBend v_tape v_text v_names v_bends v_high v_to v_pileSize v_planLine v_planWay v_way1 v_bestWay v_order1 v_placeIn v_bodyKind v_trace v_shelf v_many v_items v_carried) → va_S A s.heap H locs → lv_has ls 7 [(0, .ref (a 0)), (1, .int x1), (2, .int x2), (3, .int x3), (4, .int x4), (5, .int x5)] → W p l e (mm_rr d) s m args below meth c H locs 0 0 (mm_Z below D A (wd_X9 cI cL cS cH a v_keptMany v_done v_rowsOf v_columnsOf v_folded v_wronged v_tapeMany v_textMany v_base v_at v_ends v_fault v_opened v_bentMany v_bentWrong v_moreWorn w_planned v_allWrong v_allWorn v_z v_wishedField v_isFound v_bestWrong v_bestWorn v_bestMany v_soughtBy v_sought v_soughtAt v_foundMany v_foundOrder v_isKept v_imageRows v_imageColumns v_imageFolded v_imageWronged v_bodies v_ran v_ownKind v_ownNumber v_limit v_changeWas v_changeIs v_shapeRows v_shapeColumns v_row v_column v_below v_face v_worn v_lastBend v_tape v_text v_names v_bends v_high v_to v_pileSize w_planLine w_planWay v_way1 v_bestWay v_order1 v_placeIn v_bodyKind v_trace v_shelf v_many v_items v_carried) (some (.int r)) args s) (F0 m 69 ls [])) : ∀ (x1 : Int32) (x2 : Int32) (x3 : Int32) (x4 : Int32) (v_planned : Int32) (v_planLine : List Int32) (v_planWay : List Int32) (v_shelf : List Int32) (v_many : List Int32) (v_items : List Int64) (H : Heap) (locs : List Loc) (ls : Array Slot), fX9_plans_110 N k_69 x1 x2 x3 x4 v_planned v_planLine v_planWay v_shelf v_many v_items = some (r, w_planned, w_planLine, w_planWay) → va_P D mm_cl (wd_X9 cI cL cS cH a v_keptMany v_done v_rowsOf v_columnsOf v_folded v_wronged v_tapeMany v_textMany v_base v_at v_ends v_fault v_opened v_bentMany v_bentWrong v_moreWorn v_planned v_allWrong v_allWorn v_z v_wishedField v_isFound v_bestWrong v_bestWorn v_bestMany v_soughtBy v_sought v_soughtAt v_foundMany v_foundOrder v_isKept v_imageRows v_imageColumns v_imageFolded v_imageWronged v_bodies v_ran v_ownKind v_ownNumber v_limit v_changeWas v_changeIs v_shapeRows v_shapeColumns v_row v_column v_below v_face v_worn v_lastBend v_tape v_text v_names v_bends v_high v_to v_pileSize v_planLine v_planWay v_way1 v_bestWay v_order1 v_placeIn v_bodyKind v_trace v_shelf v_many v_items v_carried) H → va_D A (wd_X9 cI cL cS cH a v_keptMany v_done v_rowsOf v_columnsOf v_folded v_wronged v_tapeMany v_textMany v_base v_at v_ends v_fault v_opened v_bentMany v_bentWrong v_moreWorn v_planned v_allWrong v_allWorn v_z v_wishedField v_isFound v_bestWrong v_bestWorn v_bestMany v_soughtBy v_sought v_soughtAt v_foundMany v_foundOrder v_isKept v_imageRows v_imageColumns v_imageFolded v_imageWronged v_bodies v_ran v_ownKind v_ownNumber v_limit v_changeWas v_changeIs v_shapeRows v_shapeColumns v_row v_column v_below v_face v_worn v_lastBend v_tape v_text v_names v_bends v_high v_to v_pileSize v_planLine v_planWay v_way1 v_bestWay v_order1 v_placeIn v_bodyKind v_trace v_shelf v_many v_items v_carried) → va_S A s.heap H locs → lv_has ls 7 [(0, .ref (a 0)), (1, .int x1), (2, .int x2), (3, .int x3), (4, .int x4)] → W p l e (mm_rr d) s m args below meth c H locs 0 0 (mm_Z below D A (wd_X9 cI cL cS cH a v_keptMany v_done v_rowsOf v_columnsOf v_folded v_wronged v_tapeMany v_textMany v_base v_at v_ends v_fault v_opened v_bentMany v_bentWrong v_moreWorn w_planned v_allWrong v_allWorn v_z v_wishedField v_isFound v_bestWrong v_bestWorn v_bestMany v_soughtBy v_sought v_soughtAt v_foundMany v_foundOrder v_isKept v_imageRows v_imageColumns v_imageFolded v_imageWronged v_bodies v_ran v_ownKind v_ownNumber v_limit v_changeWas v_changeIs v_shapeRows v_shapeColumns v_row v_column v_below v_face v_worn v_lastBend v_tape v_text v_names v_bends v_high v_to v_pileSize w_planLine w_planWay v_way1 v_bestWay v_order1 v_placeIn v_bodyKind v_trace v_shelf v_many v_items v_carried) (some (.int r)) args s) (F0 m 110 ls []) := by
  obtain ⟨hx, hb, hml, hown, hts, hr, hlocks, hK, hSt⟩ := id C0
  intro x1 x2 x3 x4 v_planned v_planLine v_planWay v_shelf v_many v_items H locs ls hf hP hD hS hl
  unfold fX9_plans_110 at hf
  refine lv_iconst (v := 0) hx hb dX9_plans_110 (by decide) ?_
  exact tX9_plans_111 hd C0 hA N hk_69 _ _ _ _ _ _ _ _ _ _ _ H locs ls hf hP hD hS (lv_sub hl [0, 1, 2, 3, 4] rfl)

def fX9_plans_69 (N : Nat)  : Nat → Int32 → Int32 → Int32 → Int32 → Int32 → Int32 → List Int32 → List Int32 → List Int32 → List Int32 → List Int64 → Option (Int32 × Int32 × List Int32 × List Int32)
  | 0 => fun _ _ _ _ _ _ _ _ _ _ _ => none
  | n + 1 => fun x1 x2 x3 x4 x5 v_planned v_planLine v_planWay v_shelf v_many v_items =>
    if x5 = 0 then
    (some (x4, v_planned, v_planLine, v_planWay))
    else (if x3 ≤ x4 then
    (some (x4, v_planned, v_planLine, v_planWay))
    else (mm_ck (mm_inb x1 v_many.length) (if (((mm_ig v_many x1) - (2 : Int32)) - ((2 : Int32) * x4)) < x2 then
    (fX9_plans_110 N (fX9_plans_69 N n) x1 x2 x3 x4 v_planned v_planLine v_planWay v_shelf v_many v_items)
    else (if (12 : Int32) ≤ v_planned then
    (fX9_plans_110 N (fX9_plans_69 N n) x1 x2 x3 x4 v_planned v_planLine v_planWay v_shelf v_many v_items)
    else (fX9_plans_111 N (fX9_plans_69 N n) x1 x2 x3 x4 (1 : Int32) v_planned v_planLine v_planWay v_shelf v_many v_items)))))

set_option maxHeartbeats 4000000 in
set_option maxRecDepth 100000 in
theorem tX9_plans_69 {p : Program} {l : Launch} {e : Env} {s : State} {m : MethodId} {args : Array Value} {below : List Frame} {meth : Method} {c : Code} {D : va_G} {cI cL cS cH : ClassId} {A : Nat → Prop} {d : Nat} {a : Nat → Nat} (hd : 3 ≤ d) (C0 : mm_Cx p s m args meth c RX9 cX9_plans 7 (some .int) D (mm_T cI cL cS cH) A) (hA : ∀ q, s.heap.size ≤ q → A q) {v_keptMany : Int32} {v_done : Int32} {v_rowsOf : Int32} {v_columnsOf : Int32} {v_folded : Int32} {v_wronged : Int32} {v_tapeMany : Int32} {v_textMany : Int32} {v_base : Int32} {v_at : Int32} {v_ends : Int32} {v_fault : Int32} {v_opened : Int32} {v_bentMany : Int32} {v_bentWrong : Int32} {v_moreWorn : Int32} {v_allWrong : Int32} {v_allWorn : Int32} {v_z : Int32} {v_wishedField : Int32} {v_isFound : Bool} {v_bestWrong : Int32} {v_bestWorn : Int32} {v_bestMany : Int32} {v_soughtBy : Int32} {v_sought : Int32} {v_soughtAt : Int32} {v_foundMany : Int32} {v_foundOrder : Int32} {v_isKept : Bool} {v_imageRows : Int32} {v_imageColumns : Int32} {v_imageFolded : Int32} {v_imageWronged : Int32} {v_bodies : Int32} {v_ran : Int32} {v_ownKind : Int32} {v_ownNumber : Int32} {v_limit : List Int32} {v_changeWas : List Int32} {v_changeIs : List Int32} {v_shapeRows : List Int32} {v_shapeColumns : List Int32} {v_row : List Int32} {v_column : List Int32} {v_below : List Int32} {v_face : List Int32} {v_worn : List Int32} {v_lastBend : List Int32} {v_tape : List Int32} {v_text : List Int32} {v_names : List Int32} {v_bends : List Int32} {v_high : List Int32} {v_to : List Int32} {v_pileSize : List Int32} {v_way1 : List Int32} {v_bestWay : List Int32} {v_order1 : List Int32} {v_placeIn : List Int32} {v_bodyKind : List Int32} {v_trace : List Int32} {v_carried : List Int64} {r : Int32} {w_planned : Int32} {w_planLine : List Int32} {w_planWay : List Int32} (N : Nat)  : ∀ (n : Nat), ∀ (x1 : Int32) (x2 : Int32) (x3 : Int32) (x4 : Int32) (x5 : Int32) (v_planned : Int32) (v_planLine : List Int32) (v_planWay : List Int32) (v_shelf : List Int32) (v_many : List Int32) (v_items : List Int64) (H : Heap) (locs : List Loc) (ls : Array Slot), fX9_plans_69 N n x1 x2 x3 x4 x5 v_planned v_planLine v_planWay v_shelf v_many v_items = some (r, w_planned, w_planLine, w_planWay) → va_P D mm_cl (wd_X9 cI cL cS cH a v_keptMany v_done v_rowsOf v_columnsOf v_folded v_wronged v_tapeMany v_textMany v_base v_at v_ends v_fault v_opened v_bentMany v_bentWrong v_moreWorn v_planned v_allWrong v_allWorn v_z v_wishedField v_isFound v_bestWrong v_bestWorn v_bestMany v_soughtBy v_sought v_soughtAt v_foundMany v_foundOrder v_isKept v_imageRows v_imageColumns v_imageFolded v_imageWronged v_bodies v_ran v_ownKind v_ownNumber v_limit v_changeWas v_changeIs v_shapeRows v_shapeColumns v_row v_column v_below v_face v_worn v_lastBend v_tape v_text v_names v_bends v_high v_to v_pileSize v_planLine v_planWay v_way1 v_bestWay v_order1 v_placeIn v_bodyKind v_trace v_shelf v_many v_items v_carried) H → va_D A (wd_X9 cI cL cS cH a v_keptMany v_done v_rowsOf v_columnsOf v_folded v_wronged v_tapeMany v_textMany v_base v_at v_ends v_fault v_opened v_bentMany v_bentWrong v_moreWorn v_planned v_allWrong v_allWorn v_z v_wishedField v_isFound v_bestWrong v_bestWorn v_bestMany v_soughtBy v_sought v_soughtAt v_foundMany v_foundOrder v_isKept v_imageRows v_imageColumns v_imageFolded v_imageWronged v_bodies v_ran v_ownKind v_ownNumber v_limit v_changeWas v_changeIs v_shapeRows v_shapeColumns v_row v_column v_below v_face v_worn v_lastBend v_tape v_text v_names v_bends v_high v_to v_pileSize v_planLine v_planWay v_way1 v_bestWay v_order1 v_placeIn v_bodyKind v_trace v_shelf v_many v_items v_carried) → va_S A s.heap H locs → lv_has ls 7 [(0, .ref (a 0)), (1, .int x1), (2, .int x2), (3, .int x3), (4, .int x4), (5, .int x5)] → W p l e (mm_rr d) s m args below meth c H locs 0 0 (mm_Z below D A (wd_X9 cI cL cS cH a v_keptMany v_done v_rowsOf v_columnsOf v_folded v_wronged v_tapeMany v_textMany v_base v_at v_ends v_fault v_opened v_bentMany v_bentWrong v_moreWorn w_planned v_allWrong v_allWorn v_z v_wishedField v_isFound v_bestWrong v_bestWorn v_bestMany v_soughtBy v_sought v_soughtAt v_foundMany v_foundOrder v_isKept v_imageRows v_imageColumns v_imageFolded v_imageWronged v_bodies v_ran v_ownKind v_ownNumber v_limit v_changeWas v_changeIs v_shapeRows v_shapeColumns v_row v_column v_below v_face v_worn v_lastBend v_tape v_text v_names v_bends v_high v_to v_pileSize w_planLine w_planWay v_way1 v_bestWay v_order1 v_placeIn v_bodyKind v_trace v_shelf v_many v_items v_carried) (some (.int r)) args s) (F0 m 69 ls []) := by
  obtain ⟨hx, hb, hml, hown, hts, hr, hlocks, hK, hSt⟩ := id C0
  intro n
  induction n with
  | zero =>
    intro x1 x2 x3 x4 x5 v_planned v_planLine v_planWay v_shelf v_many v_items H locs ls hf
    cases (show none = some _ from hf)
  | succ n ih =>
    intro x1 x2 x3 x4 x5 v_planned v_planLine v_planWay v_shelf v_many v_items H locs ls hf hP hD hS hl
    unfold fX9_plans_69 at hf
    refine lv_iload hx hb dX9_plans_69 (lv_at hl 5 rfl) ?_
    refine lv_if_eq (tgt := 231) hx hb dX9_plans_71 (by decide) (fun c_14 => ?_) (fun c_14 => ?_)
    · have hf := mm_ip hf c_14
      refine lv_iload hx hb dX9_plans_231 (lv_at hl 4 rfl) ?_
      apply mm_sub4 hf
      exact mm_iret C0 hP hD hS dX9_plans_233
    · have hf := mm_in hf c_14
      refine lv_iload hx hb dX9_plans_74 (lv_at hl 4 rfl) ?_
      refine lv_iload_n hx hb dX9_plans_76 rfl (lv_at hl 3 rfl) ?_
      refine lv_icmp_ge (tgt := 231) hx hb dX9_plans_77 (by decide) (fun c_15 => ?_) (fun c_15 => ?_)
      · have hf := mm_ip hf c_15
        refine lv_iload hx hb dX9_plans_231 (lv_at hl 4 rfl) ?_
        apply mm_sub4 hf
        exact mm_iret C0 hP hD hS dX9_plans_233
      · have hf := mm_in hf c_15
        refine lv_iload_n hx hb dX9_plans_80 rfl (lv_at hl 2 rfl) ?_
        refine lv_aload_n hx hb dX9_plans_81 rfl (lv_at hl 0 rfl) ?_
        refine mm_get C0 hP iw_X9 0 rfl rfl 66 (by decide) fl_X9_91 rfl dX9_plans_82 ?_
        refine lv_iload_n hx hb dX9_plans_85 rfl (lv_at hl 1 rfl) ?_
        obtain ⟨h_16, hf⟩ := mm_cks hf
        refine mm_iald C0 hP 28 rfl h_16 dX9_plans_86 ?_
        refine lv_iconst (v := 2) hx hb dX9_plans_87 (by decide) ?_
        refine lv_isub hx hb dX9_plans_88 ?_
        refine lv_iconst (v := 2) hx hb dX9_plans_89 (by decide) ?_
        refine lv_iload hx hb dX9_plans_90 (lv_at hl 4 rfl) ?_
        refine lv_imul hx hb dX9_plans_92 ?_
        refine lv_isub hx hb dX9_plans_93 ?_
        refine lv_icmp_gt (tgt := 110) hx hb dX9_plans_94 (by decide) (fun c_17 => ?_) (fun c_17 => ?_)
        · have hf := mm_ip hf c_17
          exact tX9_plans_110 hd C0 hA N ih _ _ _ _ _ _ _ _ _ _ H locs ls hf hP hD hS (lv_sub hl [0, 1, 2, 3, 4] rfl)
        · have hf := mm_in hf c_17
          refine lv_aload_n hx hb dX9_plans_97 rfl (lv_at hl 0 rfl) ?_
          refine mm_get C0 hP iw_X9 0 rfl rfl 36 (by decide) fl_X9_271 rfl dX9_plans_98 ?_
          refine lv_bipush (v := 12) hx hb dX9_plans_101 (by decide) ?_
          refine lv_icmp_ge (tgt := 110) hx hb dX9_plans_103 (by decide) (fun c_18 => ?_) (fun c_18 => ?_)
          · have hf := mm_ip hf c_18
            exact tX9_plans_110 hd C0 hA N ih _ _ _ _ _ _ _ _ _ _ H locs ls hf hP hD hS (lv_sub hl [0, 1, 2, 3, 4] rfl)
          · have hf := mm_in hf c_18
            refine lv_iconst (v := 1) hx hb dX9_plans_106 (by decide) ?_
            refine lv_goto (tgt := 111) hx hb dX9_plans_107 (by decide) ?_
            exact tX9_plans_111 hd C0 hA N ih _ _ _ _ _ _ _ _ _ _ _ H locs ls hf hP hD hS (lv_sub hl [0, 1, 2, 3, 4] rfl)

def fX9_plans_67 (N : Nat)  (x1 : Int32) (x2 : Int32) (x3 : Int32) (x4 : Int32) (s0 : Int32) (v_planned : Int32) (v_planLine : List Int32) (v_planWay : List Int32) (v_shelf : List Int32) (v_many : List Int32) (v_items : List Int64) : Option (Int32 × Int32 × List Int32 × List Int32) :=
    fX9_plans_69 N N x1 x2 x3 x4 s0 v_planned v_planLine v_planWay v_shelf v_many v_items

set_option maxHeartbeats 4000000 in
set_option maxRecDepth 100000 in
theorem tX9_plans_67 {p : Program} {l : Launch} {e : Env} {s : State} {m : MethodId} {args : Array Value} {below : List Frame} {meth : Method} {c : Code} {D : va_G} {cI cL cS cH : ClassId} {A : Nat → Prop} {d : Nat} {a : Nat → Nat} (hd : 3 ≤ d) (C0 : mm_Cx p s m args meth c RX9 cX9_plans 7 (some .int) D (mm_T cI cL cS cH) A) (hA : ∀ q, s.heap.size ≤ q → A q) {v_keptMany : Int32} {v_done : Int32} {v_rowsOf : Int32} {v_columnsOf : Int32} {v_folded : Int32} {v_wronged : Int32} {v_tapeMany : Int32} {v_textMany : Int32} {v_base : Int32} {v_at : Int32} {v_ends : Int32} {v_fault : Int32} {v_opened : Int32} {v_bentMany : Int32} {v_bentWrong : Int32} {v_moreWorn : Int32} {v_allWrong : Int32} {v_allWorn : Int32} {v_z : Int32} {v_wishedField : Int32} {v_isFound : Bool} {v_bestWrong : Int32} {v_bestWorn : Int32} {v_bestMany : Int32} {v_soughtBy : Int32} {v_sought : Int32} {v_soughtAt : Int32} {v_foundMany : Int32} {v_foundOrder : Int32} {v_isKept : Bool} {v_imageRows : Int32} {v_imageColumns : Int32} {v_imageFolded : Int32} {v_imageWronged : Int32} {v_bodies : Int32} {v_ran : Int32} {v_ownKind : Int32} {v_ownNumber : Int32} {v_limit : List Int32} {v_changeWas : List Int32} {v_changeIs : List Int32} {v_shapeRows : List Int32} {v_shapeColumns : List Int32} {v_row : List Int32} {v_column : List Int32} {v_below : List Int32} {v_face : List Int32} {v_worn : List Int32} {v_lastBend : List Int32} {v_tape : List Int32} {v_text : List Int32} {v_names : List Int32} {v_bends : List Int32} {v_high : List Int32} {v_to : List Int32} {v_pileSize : List Int32} {v_way1 : List Int32} {v_bestWay : List Int32} {v_order1 : List Int32} {v_placeIn : List Int32} {v_bodyKind : List Int32} {v_trace : List Int32} {v_carried : List Int64} {r : Int32} {w_planned : Int32} {w_planLine : List Int32} {w_planWay : List Int32} (N : Nat)  : ∀ (x1 : Int32) (x2 : Int32) (x3 : Int32) (x4 : Int32) (s0 : Int32) (v_planned : Int32) (v_planLine : List Int32) (v_planWay : List Int32) (v_shelf : List Int32) (v_many : List Int32) (v_items : List Int64) (H : Heap) (locs : List Loc) (ls : Array Slot), fX9_plans_67 N x1 x2 x3 x4 s0 v_planned v_planLine v_planWay v_shelf v_many v_items = some (r, w_planned, w_planLine, w_planWay) → va_P D mm_cl (wd_X9 cI cL cS cH a v_keptMany v_done v_rowsOf v_columnsOf v_folded v_wronged v_tapeMany v_textMany v_base v_at v_ends v_fault v_opened v_bentMany v_bentWrong v_moreWorn v_planned v_allWrong v_allWorn v_z v_wishedField v_isFound v_bestWrong v_bestWorn v_bestMany v_soughtBy v_sought v_soughtAt v_foundMany v_foundOrder v_isKept v_imageRows v_imageColumns v_imageFolded v_imageWronged v_bodies v_ran v_ownKind v_ownNumber v_limit v_changeWas v_changeIs v_shapeRows v_shapeColumns v_row v_column v_below v_face v_worn v_lastBend v_tape v_text v_names v_bends v_high v_to v_pileSize v_planLine v_planWay v_way1 v_bestWay v_order1 v_placeIn v_bodyKind v_trace v_shelf v_many v_items v_carried) H → va_D A (wd_X9 cI cL cS cH a v_keptMany v_done v_rowsOf v_columnsOf v_folded v_wronged v_tapeMany v_textMany v_base v_at v_ends v_fault v_opened v_bentMany v_bentWrong v_moreWorn v_planned v_allWrong v_allWorn v_z v_wishedField v_isFound v_bestWrong v_bestWorn v_bestMany v_soughtBy v_sought v_soughtAt v_foundMany v_foundOrder v_isKept v_imageRows v_imageColumns v_imageFolded v_imageWronged v_bodies v_ran v_ownKind v_ownNumber v_limit v_changeWas v_changeIs v_shapeRows v_shapeColumns v_row v_column v_below v_face v_worn v_lastBend v_tape v_text v_names v_bends v_high v_to v_pileSize v_planLine v_planWay v_way1 v_bestWay v_order1 v_placeIn v_bodyKind v_trace v_shelf v_many v_items v_carried) → va_S A s.heap H locs → lv_has ls 7 [(0, .ref (a 0)), (1, .int x1), (2, .int x2), (3, .int x3), (4, .int x4)] → W p l e (mm_rr d) s m args below meth c H locs 0 0 (mm_Z below D A (wd_X9 cI cL cS cH a v_keptMany v_done v_rowsOf v_columnsOf v_folded v_wronged v_tapeMany v_textMany v_base v_at v_ends v_fault v_opened v_bentMany v_bentWrong v_moreWorn w_planned v_allWrong v_allWorn v_z v_wishedField v_isFound v_bestWrong v_bestWorn v_bestMany v_soughtBy v_sought v_soughtAt v_foundMany v_foundOrder v_isKept v_imageRows v_imageColumns v_imageFolded v_imageWronged v_bodies v_ran v_ownKind v_ownNumber v_limit v_changeWas v_changeIs v_shapeRows v_shapeColumns v_row v_column v_below v_face v_worn v_lastBend v_tape v_text v_names v_bends v_high v_to v_pileSize w_planLine w_planWay v_way1 v_bestWay v_order1 v_placeIn v_bodyKind v_trace v_shelf v_many v_items v_carried) (some (.int r)) args s) (F0 m 67 ls [.int s0]) := by
  obtain ⟨hx, hb, hml, hown, hts, hr, hlocks, hK, hSt⟩ := id C0
  intro x1 x2 x3 x4 s0 v_planned v_planLine v_planWay v_shelf v_many v_items H locs ls hf hP hD hS hl
  unfold fX9_plans_67 at hf
  refine lv_istore (lv' := [(5, .int s0), (0, .ref (a 0)), (1, .int x1), (2, .int x2), (3, .int x3), (4, .int x4)]) hx hb dX9_plans_67 hl (by decide) rfl (fun ls hl => ?_)
  exact tX9_plans_69 hd C0 hA N  N _ _ _ _ _ _ _ _ _ _ _ H locs ls hf hP hD hS (lv_sub hl [1, 2, 3, 4, 5, 0] rfl)

def fX9_plans_66 (N : Nat)  (x1 : Int32) (x2 : Int32) (x3 : Int32) (x4 : Int32) (v_planned : Int32) (v_planLine : List Int32) (v_planWay : List Int32) (v_shelf : List Int32) (v_many : List Int32) (v_items : List Int64) : Option (Int32 × Int32 × List Int32 × List Int32) :=
    fX9_plans_67 N x1 x2 x3 x4 (0 : Int32) v_planned v_planLine v_planWay v_shelf v_many v_items

set_option maxHeartbeats 4000000 in
set_option maxRecDepth 100000 in
theorem tX9_plans_66 {p : Program} {l : Launch} {e : Env} {s : State} {m : MethodId} {args : Array Value} {below : List Frame} {meth : Method} {c : Code} {D : va_G} {cI cL cS cH : ClassId} {A : Nat → Prop} {d : Nat} {a : Nat → Nat} (hd : 3 ≤ d) (C0 : mm_Cx p s m args meth c RX9 cX9_plans 7 (some .int) D (mm_T cI cL cS cH) A) (hA : ∀ q, s.heap.size ≤ q → A q) {v_keptMany : Int32} {v_done : Int32} {v_rowsOf : Int32} {v_columnsOf : Int32} {v_folded : Int32} {v_wronged : Int32} {v_tapeMany : Int32} {v_textMany : Int32} {v_base : Int32} {v_at : Int32} {v_ends : Int32} {v_fault : Int32} {v_opened : Int32} {v_bentMany : Int32} {v_bentWrong : Int32} {v_moreWorn : Int32} {v_allWrong : Int32} {v_allWorn : Int32} {v_z : Int32} {v_wishedField : Int32} {v_isFound : Bool} {v_bestWrong : Int32} {v_bestWorn : Int32} {v_bestMany : Int32} {v_soughtBy : Int32} {v_sought : Int32} {v_soughtAt : Int32} {v_foundMany : Int32} {v_foundOrder : Int32} {v_isKept : Bool} {v_imageRows : Int32} {v_imageColumns : Int32} {v_imageFolded : Int32} {v_imageWronged : Int32} {v_bodies : Int32} {v_ran : Int32} {v_ownKind : Int32} {v_ownNumber : Int32} {v_limit : List Int32} {v_changeWas : List Int32} {v_changeIs : List Int32} {v_shapeRows : List Int32} {v_shapeColumns : List Int32} {v_row : List Int32} {v_column : List Int32} {v_below : List Int32} {v_face : List Int32} {v_worn : List Int32} {v_lastBend : List Int32} {v_tape : List Int32} {v_text : List Int32} {v_names : List Int32} {v_bends : List Int32} {v_high : List Int32} {v_to : List Int32} {v_pileSize : List Int32} {v_way1 : List Int32} {v_bestWay : List Int32} {v_order1 : List Int32} {v_placeIn : List Int32} {v_bodyKind : List Int32} {v_trace : List Int32} {v_carried : List Int64} {r : Int32} {w_planned : Int32} {w_planLine : List Int32} {w_planWay : List Int32} (N : Nat)  : ∀ (x1 : Int32) (x2 : Int32) (x3 : Int32) (x4 : Int32) (v_planned : Int32) (v_planLine : List Int32) (v_planWay : List Int32) (v_shelf : List Int32) (v_many : List Int32) (v_items : List Int64) (H : Heap) (locs : List Loc) (ls : Array Slot), fX9_plans_66 N x1 x2 x3 x4 v_planned v_planLine v_planWay v_shelf v_many v_items = some (r, w_planned, w_planLine, w_planWay) → va_P D mm_cl (wd_X9 cI cL cS cH a v_keptMany v_done v_rowsOf v_columnsOf v_folded v_wronged v_tapeMany v_textMany v_base v_at v_ends v_fault v_opened v_bentMany v_bentWrong v_moreWorn v_planned v_allWrong v_allWorn v_z v_wishedField v_isFound v_bestWrong v_bestWorn v_bestMany v_soughtBy v_sought v_soughtAt v_foundMany v_foundOrder v_isKept v_imageRows v_imageColumns v_imageFolded v_imageWronged v_bodies v_ran v_ownKind v_ownNumber v_limit v_changeWas v_changeIs v_shapeRows v_shapeColumns v_row v_column v_below v_face v_worn v_lastBend v_tape v_text v_names v_bends v_high v_to v_pileSize v_planLine v_planWay v_way1 v_bestWay v_order1 v_placeIn v_bodyKind v_trace v_shelf v_many v_items v_carried) H → va_D A (wd_X9 cI cL cS cH a v_keptMany v_done v_rowsOf v_columnsOf v_folded v_wronged v_tapeMany v_textMany v_base v_at v_ends v_fault v_opened v_bentMany v_bentWrong v_moreWorn v_planned v_allWrong v_allWorn v_z v_wishedField v_isFound v_bestWrong v_bestWorn v_bestMany v_soughtBy v_sought v_soughtAt v_foundMany v_foundOrder v_isKept v_imageRows v_imageColumns v_imageFolded v_imageWronged v_bodies v_ran v_ownKind v_ownNumber v_limit v_changeWas v_changeIs v_shapeRows v_shapeColumns v_row v_column v_below v_face v_worn v_lastBend v_tape v_text v_names v_bends v_high v_to v_pileSize v_planLine v_planWay v_way1 v_bestWay v_order1 v_placeIn v_bodyKind v_trace v_shelf v_many v_items v_carried) → va_S A s.heap H locs → lv_has ls 7 [(0, .ref (a 0)), (1, .int x1), (2, .int x2), (3, .int x3), (4, .int x4)] → W p l e (mm_rr d) s m args below meth c H locs 0 0 (mm_Z below D A (wd_X9 cI cL cS cH a v_keptMany v_done v_rowsOf v_columnsOf v_folded v_wronged v_tapeMany v_textMany v_base v_at v_ends v_fault v_opened v_bentMany v_bentWrong v_moreWorn w_planned v_allWrong v_allWorn v_z v_wishedField v_isFound v_bestWrong v_bestWorn v_bestMany v_soughtBy v_sought v_soughtAt v_foundMany v_foundOrder v_isKept v_imageRows v_imageColumns v_imageFolded v_imageWronged v_bodies v_ran v_ownKind v_ownNumber v_limit v_changeWas v_changeIs v_shapeRows v_shapeColumns v_row v_column v_below v_face v_worn v_lastBend v_tape v_text v_names v_bends v_high v_to v_pileSize w_planLine w_planWay v_way1 v_bestWay v_order1 v_placeIn v_bodyKind v_trace v_shelf v_many v_items v_carried) (some (.int r)) args s) (F0 m 66 ls []) := by
  obtain ⟨hx, hb, hml, hown, hts, hr, hlocks, hK, hSt⟩ := id C0
  intro x1 x2 x3 x4 v_planned v_planLine v_planWay v_shelf v_many v_items H locs ls hf hP hD hS hl
  unfold fX9_plans_66 at hf
  refine lv_iconst (v := 0) hx hb dX9_plans_66 (by decide) ?_
  exact tX9_plans_67 hd C0 hA N  _ _ _ _ _ _ _ _ _ _ _ H locs ls hf hP hD hS (lv_sub hl [0, 1, 2, 3, 4] rfl)

def fX9_plans_44 (N : Nat)  (x1 : Int32) (x2 : Int32) (x3 : Int32) (v_planned : Int32) (v_planLine : List Int32) (v_planWay : List Int32) (v_shelf : List Int32) (v_many : List Int32) (v_items : List Int64) : Option (Int32 × Int32 × List Int32 × List Int32) :=
    mm_ck (mm_inb x1 v_shelf.length) (if (mm_ig v_shelf x1) = (50 : Int32) then
    (if x2 < 0 then
    (fX9_plans_66 N x1 x2 x3 (0 : Int32) v_planned v_planLine v_planWay v_shelf v_many v_items)
    else (fX9_plans_67 N x1 x2 x3 (0 : Int32) (1 : Int32) v_planned v_planLine v_planWay v_shelf v_many v_items))
    else (fX9_plans_66 N x1 x2 x3 (0 : Int32) v_planned v_planLine v_planWay v_shelf v_many v_items))

set_option maxHeartbeats 4000000 in
set_option maxRecDepth 100000 in
theorem tX9_plans_44 {p : Program} {l : Launch} {e : Env} {s : State} {m : MethodId} {args : Array Value} {below : List Frame} {meth : Method} {c : Code} {D : va_G} {cI cL cS cH : ClassId} {A : Nat → Prop} {d : Nat} {a : Nat → Nat} (hd : 3 ≤ d) (C0 : mm_Cx p s m args meth c RX9 cX9_plans 7 (some .int) D (mm_T cI cL cS cH) A) (hA : ∀ q, s.heap.size ≤ q → A q) {v_keptMany : Int32} {v_done : Int32} {v_rowsOf : Int32} {v_columnsOf : Int32} {v_folded : Int32} {v_wronged : Int32} {v_tapeMany : Int32} {v_textMany : Int32} {v_base : Int32} {v_at : Int32} {v_ends : Int32} {v_fault : Int32} {v_opened : Int32} {v_bentMany : Int32} {v_bentWrong : Int32} {v_moreWorn : Int32} {v_allWrong : Int32} {v_allWorn : Int32} {v_z : Int32} {v_wishedField : Int32} {v_isFound : Bool} {v_bestWrong : Int32} {v_bestWorn : Int32} {v_bestMany : Int32} {v_soughtBy : Int32} {v_sought : Int32} {v_soughtAt : Int32} {v_foundMany : Int32} {v_foundOrder : Int32} {v_isKept : Bool} {v_imageRows : Int32} {v_imageColumns : Int32} {v_imageFolded : Int32} {v_imageWronged : Int32} {v_bodies : Int32} {v_ran : Int32} {v_ownKind : Int32} {v_ownNumber : Int32} {v_limit : List Int32} {v_changeWas : List Int32} {v_changeIs : List Int32} {v_shapeRows : List Int32} {v_shapeColumns : List Int32} {v_row : List Int32} {v_column : List Int32} {v_below : List Int32} {v_face : List Int32} {v_worn : List Int32} {v_lastBend : List Int32} {v_tape : List Int32} {v_text : List Int32} {v_names : List Int32} {v_bends : List Int32} {v_high : List Int32} {v_to : List Int32} {v_pileSize : List Int32} {v_way1 : List Int32} {v_bestWay : List Int32} {v_order1 : List Int32} {v_placeIn : List Int32} {v_bodyKind : List Int32} {v_trace : List Int32} {v_carried : List Int64} {r : Int32} {w_planned : Int32} {w_planLine : List Int32} {w_planWay : List Int32} (N : Nat)  : ∀ (x1 : Int32) (x2 : Int32) (x3 : Int32) (v_planned : Int32) (v_planLine : List Int32) (v_planWay : List Int32) (v_shelf : List Int32) (v_many : List Int32) (v_items : List Int64) (H : Heap) (locs : List Loc) (ls : Array Slot), fX9_plans_44 N x1 x2 x3 v_planned v_planLine v_planWay v_shelf v_many v_items = some (r, w_planned, w_planLine, w_planWay) → va_P D mm_cl (wd_X9 cI cL cS cH a v_keptMany v_done v_rowsOf v_columnsOf v_folded v_wronged v_tapeMany v_textMany v_base v_at v_ends v_fault v_opened v_bentMany v_bentWrong v_moreWorn v_planned v_allWrong v_allWorn v_z v_wishedField v_isFound v_bestWrong v_bestWorn v_bestMany v_soughtBy v_sought v_soughtAt v_foundMany v_foundOrder v_isKept v_imageRows v_imageColumns v_imageFolded v_imageWronged v_bodies v_ran v_ownKind v_ownNumber v_limit v_changeWas v_changeIs v_shapeRows v_shapeColumns v_row v_column v_below v_face v_worn v_lastBend v_tape v_text v_names v_bends v_high v_to v_pileSize v_planLine v_planWay v_way1 v_bestWay v_order1 v_placeIn v_bodyKind v_trace v_shelf v_many v_items v_carried) H → va_D A (wd_X9 cI cL cS cH a v_keptMany v_done v_rowsOf v_columnsOf v_folded v_wronged v_tapeMany v_textMany v_base v_at v_ends v_fault v_opened v_bentMany v_bentWrong v_moreWorn v_planned v_allWrong v_allWorn v_z v_wishedField v_isFound v_bestWrong v_bestWorn v_bestMany v_soughtBy v_sought v_soughtAt v_foundMany v_foundOrder v_isKept v_imageRows v_imageColumns v_imageFolded v_imageWronged v_bodies v_ran v_ownKind v_ownNumber v_limit v_changeWas v_changeIs v_shapeRows v_shapeColumns v_row v_column v_below v_face v_worn v_lastBend v_tape v_text v_names v_bends v_high v_to v_pileSize v_planLine v_planWay v_way1 v_bestWay v_order1 v_placeIn v_bodyKind v_trace v_shelf v_many v_items v_carried) → va_S A s.heap H locs → lv_has ls 7 [(0, .ref (a 0)), (1, .int x1), (2, .int x2), (3, .int x3)] → W p l e (mm_rr d) s m args below meth c H locs 0 0 (mm_Z below D A (wd_X9 cI cL cS cH a v_keptMany v_done v_rowsOf v_columnsOf v_folded v_wronged v_tapeMany v_textMany v_base v_at v_ends v_fault v_opened v_bentMany v_bentWrong v_moreWorn w_planned v_allWrong v_allWorn v_z v_wishedField v_isFound v_bestWrong v_bestWorn v_bestMany v_soughtBy v_sought v_soughtAt v_foundMany v_foundOrder v_isKept v_imageRows v_imageColumns v_imageFolded v_imageWronged v_bodies v_ran v_ownKind v_ownNumber v_limit v_changeWas v_changeIs v_shapeRows v_shapeColumns v_row v_column v_below v_face v_worn v_lastBend v_tape v_text v_names v_bends v_high v_to v_pileSize w_planLine w_planWay v_way1 v_bestWay v_order1 v_placeIn v_bodyKind v_trace v_shelf v_many v_items v_carried) (some (.int r)) args s) (F0 m 44 ls []) := by
  obtain ⟨hx, hb, hml, hown, hts, hr, hlocks, hK, hSt⟩ := id C0
  intro x1 x2 x3 v_planned v_planLine v_planWay v_shelf v_many v_items H locs ls hf hP hD hS hl
  unfold fX9_plans_44 at hf
  refine lv_iconst (v := 0) hx hb dX9_plans_44 (by decide) ?_
  refine lv_istore (lv' := [(4, .int (0 : Int32)), (0, .ref (a 0)), (1, .int x1), (2, .int x2), (3, .int x3)]) hx hb dX9_plans_45 hl (by decide) rfl (fun ls hl => ?_)
  refine lv_aload_n hx hb dX9_plans_47 rfl (lv_at hl 1 rfl) ?_
  refine mm_get C0 hP iw_X9 0 rfl rfl 65 (by decide) fl_X9_88 rfl dX9_plans_48 ?_
  refine lv_iload_n hx hb dX9_plans_51 rfl (lv_at hl 2 rfl) ?_
  obtain ⟨h_11, hf⟩ := mm_cks hf
  refine mm_iald C0 hP 27 rfl h_11 dX9_plans_52 ?_
  refine lv_bipush (v := 50) hx hb dX9_plans_53 (by decide) ?_
  refine lv_icmp_ne (tgt := 66) hx hb dX9_plans_55 (by decide) (fun c_12 => ?_) (fun c_12 => ?_)
  · have hf := mm_in hf c_12
    exact tX9_plans_66 hd C0 hA N  _ _ _ _ _ _ _ _ _ _ H locs ls hf hP hD hS (lv_sub hl [1, 2, 3, 4, 0] rfl)
  · have hf := mm_ip hf c_12
    refine lv_iload_n hx hb dX9_plans_58 rfl (lv_at hl 3 rfl) ?_
    refine lv_if_lt (tgt := 66) hx hb dX9_plans_59 (by decide) (fun c_13 => ?_) (fun c_13 => ?_)
    · have hf := mm_ip hf c_13
      exact tX9_plans_66 hd C0 hA N  _ _ _ _ _ _ _ _ _ _ H locs ls hf hP hD hS (lv_sub hl [1, 2, 3, 4, 0] rfl)
    · have hf := mm_in hf c_13
      refine lv_iconst (v := 1) hx hb dX9_plans_62 (by decide) ?_
      refine lv_goto (tgt := 67) hx hb dX9_plans_63 (by decide) ?_
      exact tX9_plans_67 hd C0 hA N  _ _ _ _ _ _ _ _ _ _ _ H locs ls hf hP hD hS (lv_sub hl [1, 2, 3, 4, 0] rfl)

def fX9_plans (N : Nat) (x1 : Int32) (x2 : Int32) (x3 : Int32) (v_planned : Int32) (v_planLine : List Int32) (v_planWay : List Int32) (v_shelf : List Int32) (v_many : List Int32) (v_items : List Int64) : Option (Int32 × Int32 × List Int32 × List Int32) :=
    mm_bd1 (fX9_isShelf N x1) (fun (r_1 : Bool) =>
    if r_1 = false then
    (some ((-1 : Int32), v_planned, v_planLine, v_planWay))
    else (mm_bd1 (fX9_within N ((x3).toInt64) (1 : Int64) (12 : Int64)) (fun (r_4 : Bool) =>
    if r_4 = false then
    (some ((-1 : Int32), v_planned, v_planLine, v_planWay))
    else (mm_ck (mm_inb x1 v_shelf.length) (if (mm_ig v_shelf x1) < 0 then
    (fX9_plans_44 N x1 x2 x3 v_planned v_planLine v_planWay v_shelf v_many v_items)
    else (mm_ck (mm_inb x1 v_shelf.length) (if (mm_ig v_shelf x1) = (50 : Int32) then
    (fX9_plans_44 N x1 x2 x3 v_planned v_planLine v_planWay v_shelf v_many v_items)
    else (some ((-12 : Int32), v_planned, v_planLine, v_planWay)))))))))

set_option maxHeartbeats 4000000 in
set_option maxRecDepth 100000 in
theorem ctX9_plans {l : Launch} {D : va_G} {cI cL cS cH : ClassId} {a : Nat → Nat} {x1 : Int32} {x2 : Int32} {x3 : Int32} {v_keptMany : Int32} {v_done : Int32} {v_rowsOf : Int32} {v_columnsOf : Int32} {v_folded : Int32} {v_wronged : Int32} {v_tapeMany : Int32} {v_textMany : Int32} {v_base : Int32} {v_at : Int32} {v_ends : Int32} {v_fault : Int32} {v_opened : Int32} {v_bentMany : Int32} {v_bentWrong : Int32} {v_moreWorn : Int32} {v_planned : Int32} {v_allWrong : Int32} {v_allWorn : Int32} {v_z : Int32} {v_wishedField : Int32} {v_isFound : Bool} {v_bestWrong : Int32} {v_bestWorn : Int32} {v_bestMany : Int32} {v_soughtBy : Int32} {v_sought : Int32} {v_soughtAt : Int32} {v_foundMany : Int32} {v_foundOrder : Int32} {v_isKept : Bool} {v_imageRows : Int32} {v_imageColumns : Int32} {v_imageFolded : Int32} {v_imageWronged : Int32} {v_bodies : Int32} {v_ran : Int32} {v_ownKind : Int32} {v_ownNumber : Int32} {v_limit : List Int32} {v_changeWas : List Int32} {v_changeIs : List Int32} {v_shapeRows : List Int32} {v_shapeColumns : List Int32} {v_row : List Int32} {v_column : List Int32} {v_below : List Int32} {v_face : List Int32} {v_worn : List Int32} {v_lastBend : List Int32} {v_tape : List Int32} {v_text : List Int32} {v_names : List Int32} {v_bends : List Int32} {v_high : List Int32} {v_to : List Int32} {v_pileSize : List Int32} {v_planLine : List Int32} {v_planWay : List Int32} {v_way1 : List Int32} {v_bestWay : List Int32} {v_order1 : List Int32} {v_placeIn : List Int32} {v_bodyKind : List Int32} {v_trace : List Int32} {v_shelf : List Int32} {v_many : List Int32} {v_items : List Int64} {v_carried : List Int64} {r : Int32} {w_planned : Int32} {w_planLine : List Int32} {w_planWay : List Int32} {N d : Nat} (hd : 3 ≤ d) (hf : fX9_plans N x1 x2 x3 v_planned v_planLine v_planWay v_shelf v_many v_items = some (r, w_planned, w_planLine, w_planWay)) : mm_Ct l yX9_plans cX9_plans 7 (some .int) d D (mm_T cI cL cS cH) [.ref (a 0), .int x1, .int x2, .int x3] (wd_X9 cI cL cS cH a v_keptMany v_done v_rowsOf v_columnsOf v_folded v_wronged v_tapeMany v_textMany v_base v_at v_ends v_fault v_opened v_bentMany v_bentWrong v_moreWorn v_planned v_allWrong v_allWorn v_z v_wishedField v_isFound v_bestWrong v_bestWorn v_bestMany v_soughtBy v_sought v_soughtAt v_foundMany v_foundOrder v_isKept v_imageRows v_imageColumns v_imageFolded v_imageWronged v_bodies v_ran v_ownKind v_ownNumber v_limit v_changeWas v_changeIs v_shapeRows v_shapeColumns v_row v_column v_below v_face v_worn v_lastBend v_tape v_text v_names v_bends v_high v_to v_pileSize v_planLine v_planWay v_way1 v_bestWay v_order1 v_placeIn v_bodyKind v_trace v_shelf v_many v_items v_carried) (wd_X9 cI cL cS cH a v_keptMany v_done v_rowsOf v_columnsOf v_folded v_wronged v_tapeMany v_textMany v_base v_at v_ends v_fault v_opened v_bentMany v_bentWrong v_moreWorn w_planned v_allWrong v_allWorn v_z v_wishedField v_isFound v_bestWrong v_bestWorn v_bestMany v_soughtBy v_sought v_soughtAt v_foundMany v_foundOrder v_isKept v_imageRows v_imageColumns v_imageFolded v_imageWronged v_bodies v_ran v_ownKind v_ownNumber v_limit v_changeWas v_changeIs v_shapeRows v_shapeColumns v_row v_column v_below v_face v_worn v_lastBend v_tape v_text v_names v_bends v_high v_to v_pileSize w_planLine w_planWay v_way1 v_bestWay v_order1 v_placeIn v_bodyKind v_trace v_shelf v_many v_items v_carried) (some (.int r)) := by
  refine mm_of (by decide) (Nat.le_of_ble_eq_true rfl) ?_
  intro p e s m args below meth c A H locs ls C0 hP hD hA hS hl
  have C0 : mm_Cx p s m args meth c RX9 cX9_plans 7 (some .int) D (mm_T cI cL cS cH) A := C0
  obtain ⟨hx, hb, hml, hown, hts, hr, hlocks, hK, hSt⟩ := id C0
  have hl : lv_has ls 7 [(0, .ref (a 0)), (1, .int x1), (2, .int x2), (3, .int x3)] := hl
  unfold fX9_plans at hf
  refine lv_iload_n hx hb dX9_plans_0 rfl (lv_at hl 1 rfl) ?_
  obtain ⟨r_1, hc_2, hf⟩ := mm_bd1s hf
  refine mm_callS0 (rest := []) C0 lk_X9_274 (ctX9_isShelf (d := d - 1) (by omega) hc_2) (by omega) rfl hl.1 rfl (mm_cat rfl) dX9_plans_1 hP hD hA hS (fun H locs hP hS => ?_)
  refine W.eq (g2 := F0 m 4 ls [.int (mm_b r_1)]) rfl ?_
  refine lv_if_eq (tgt := 19) hx hb dX9_plans_4 (by decide) (fun c_3 => ?_) (fun c_3 => ?_)
  · have hf := mm_ip hf (mm_b0 c_3)
    refine lv_iconst (v := -1) hx hb dX9_plans_19 (by decide) ?_
    apply mm_sub4 hf
    exact mm_iret C0 hP hD hS dX9_plans_20
  · have hf := mm_in hf (mm_b1 c_3)
    refine lv_iload_n hx hb dX9_plans_7 rfl (lv_at hl 3 rfl) ?_
    refine lv_i2l hx hb dX9_plans_8 rfl ?_
    refine lv_lconst (v := 1) hx hb dX9_plans_9 (by decide) ?_
    refine lv_ldc2 hx hb hown (hts _ kc_X9_277) dX9_plans_10 ?_
    obtain ⟨r_4, hc_5, hf⟩ := mm_bd1s hf
    refine mm_callS0 (rest := []) C0 lk_X9_111 (ctX9_within (d := d - 1) (by omega) hc_5) (by omega) rfl hl.1 rfl (mm_cat rfl) dX9_plans_13 hP hD hA hS (fun H locs hP hS => ?_)
    refine W.eq (g2 := F0 m 16 ls [.int (mm_b r_4)]) rfl ?_
    refine lv_if_ne (tgt := 21) hx hb dX9_plans_16 (by decide) (fun c_6 => ?_) (fun c_6 => ?_)
    · have hf := mm_in hf (mm_b1 c_6)
      refine lv_aload_n hx hb dX9_plans_21 rfl (lv_at hl 0 rfl) ?_
      refine mm_get C0 hP iw_X9 0 rfl rfl 65 (by decide) fl_X9_88 rfl dX9_plans_22 ?_
      refine lv_iload_n hx hb dX9_plans_25 rfl (lv_at hl 1 rfl) ?_
      obtain ⟨h_7, hf⟩ := mm_cks hf
      refine mm_iald C0 hP 27 rfl h_7 dX9_plans_26 ?_
      refine lv_if_lt (tgt := 44) hx hb dX9_plans_27 (by decide) (fun c_8 => ?_) (fun c_8 => ?_)
      · have hf := mm_ip hf c_8
        exact tX9_plans_44 hd C0 hA N  _ _ _ _ _ _ _ _ _ H locs ls hf hP hD hS (lv_sub hl [0, 1, 2, 3] rfl)
      · have hf := mm_in hf c_8
        refine lv_aload_n hx hb dX9_plans_30 rfl (lv_at hl 0 rfl) ?_
        refine mm_get C0 hP iw_X9 0 rfl rfl 65 (by decide) fl_X9_88 rfl dX9_plans_31 ?_
        refine lv_iload_n hx hb dX9_plans_34 rfl (lv_at hl 1 rfl) ?_
        obtain ⟨h_9, hf⟩ := mm_cks hf
        refine mm_iald C0 hP 27 rfl h_9 dX9_plans_35 ?_
        refine lv_bipush (v := 50) hx hb dX9_plans_36 (by decide) ?_
        refine lv_icmp_eq (tgt := 44) hx hb dX9_plans_38 (by decide) (fun c_10 => ?_) (fun c_10 => ?_)
        · have hf := mm_ip hf c_10
          exact tX9_plans_44 hd C0 hA N  _ _ _ _ _ _ _ _ _ H locs ls hf hP hD hS (lv_sub hl [0, 1, 2, 3] rfl)
        · have hf := mm_in hf c_10
          refine lv_bipush (v := -12) hx hb dX9_plans_41 (by decide) ?_
          apply mm_sub4 hf
          exact mm_iret C0 hP hD hS dX9_plans_43
    · have hf := mm_ip hf (mm_b0 c_6)
      refine lv_iconst (v := -1) hx hb dX9_plans_19 (by decide) ?_
      apply mm_sub4 hf
      exact mm_iret C0 hP hD hS dX9_plans_20

theorem dX9_startsAt_0 : decode cX9_startsAt 0 = .ok (.aload_n 0, 1) := by decide +kernel
theorem dX9_startsAt_1 : decode cX9_startsAt 1 = .ok (.iload_n 1, 1) := by decide +kernel
theorem dX9_startsAt_2 : decode cX9_startsAt 2 = .ok (.invokevirtual 131, 3) := by decide +kernel
theorem dX9_startsAt_5 : decode cX9_startsAt 5 = .ok (.iconst 0, 1) := by decide +kernel
theorem dX9_startsAt_6 : decode cX9_startsAt 6 = .ok (.istore_n 2, 1) := by decide +kernel
theorem dX9_startsAt_7 : decode cX9_startsAt 7 = .ok (.iload_n 2, 1) := by decide +kernel
theorem dX9_startsAt_8 : decode cX9_startsAt 8 = .ok (.bipush 64, 2) := by decide +kernel
theorem dX9_startsAt_10 : decode cX9_startsAt 10 = .ok (.if_icmp .ge 43, 3) := by decide +kernel
theorem dX9_startsAt_13 : decode cX9_startsAt 13 = .ok (.aload_n 0, 1) := by decide +kernel
theorem dX9_startsAt_14 : decode cX9_startsAt 14 = .ok (.getfield 37, 3) := by decide +kernel
theorem dX9_startsAt_17 : decode cX9_startsAt 17 = .ok (.bipush 64, 2) := by decide +kernel
theorem dX9_startsAt_19 : decode cX9_startsAt 19 = .ok (.iload_n 1, 1) := by decide +kernel
theorem dX9_startsAt_20 : decode cX9_startsAt 20 = .ok (.imul, 1) := by decide +kernel
theorem dX9_startsAt_21 : decode cX9_startsAt 21 = .ok (.iload_n 2, 1) := by decide +kernel
theorem dX9_startsAt_22 : decode cX9_startsAt 22 = .ok (.iadd, 1) := by decide +kernel
theorem dX9_startsAt_23 : decode cX9_startsAt 23 = .ok (.aload_n 0, 1) := by decide +kernel
theorem dX9_startsAt_24 : decode cX9_startsAt 24 = .ok (.getfield 37, 3) := by decide +kernel
theorem dX9_startsAt_27 : decode cX9_startsAt 27 = .ok (.iload_n 2, 1) := by decide +kernel
theorem dX9_startsAt_28 : decode cX9_startsAt 28 = .ok (.iaload, 1) := by decide +kernel
theorem dX9_startsAt_29 : decode cX9_startsAt 29 = .ok (.iastore, 1) := by decide +kernel
theorem dX9_startsAt_30 : decode cX9_startsAt 30 = .ok (.aload_n 0, 1) := by decide +kernel
theorem dX9_startsAt_31 : decode cX9_startsAt 31 = .ok (.getfield 40, 3) := by decide +kernel
theorem dX9_startsAt_34 : decode cX9_startsAt 34 = .ok (.bipush 64, 2) := by decide +kernel
theorem dX9_startsAt_36 : decode cX9_startsAt 36 = .ok (.iload_n 1, 1) := by decide +kernel
theorem dX9_startsAt_37 : decode cX9_startsAt 37 = .ok (.imul, 1) := by decide +kernel
theorem dX9_startsAt_38 : decode cX9_startsAt 38 = .ok (.iload_n 2, 1) := by decide +kernel
theorem dX9_startsAt_39 : decode cX9_startsAt 39 = .ok (.iadd, 1) := by decide +kernel
theorem dX9_startsAt_40 : decode cX9_startsAt 40 = .ok (.aload_n 0, 1) := by decide +kernel
theorem dX9_startsAt_41 : decode cX9_startsAt 41 = .ok (.getfield 40, 3) := by decide +kernel
theorem dX9_startsAt_44 : decode cX9_startsAt 44 = .ok (.iload_n 2, 1) := by decide +kernel
theorem dX9_startsAt_45 : decode cX9_startsAt 45 = .ok (.iaload, 1) := by decide +kernel
theorem dX9_startsAt_46 : decode cX9_startsAt 46 = .ok (.iastore, 1) := by decide +kernel
theorem dX9_startsAt_47 : decode cX9_startsAt 47 = .ok (.iinc 2 1, 3) := by decide +kernel
theorem dX9_startsAt_50 : decode cX9_startsAt 50 = .ok (.goto (-43), 3) := by decide +kernel
theorem dX9_startsAt_53 : decode cX9_startsAt 53 = .ok (.return_, 1) := by decide +kernel
def fX9_startsAt_7 (N : Nat)  : Nat → Int32 → Int32 → Int32 → Int32 → List Int32 → List Int32 → List Int32 → List Int32 → List Int32 → List Int32 → List Int32 → List Int32 → Option (List Int32 × List Int32 × List Int32 × List Int32 × List Int32 × List Int32 × List Int32 × List Int32)
  | 0 => fun _ _ _ _ _ _ _ _ _ _ _ _ => none
  | n + 1 => fun x1 x2 v_rowsOf v_columnsOf v_shapeRows v_shapeColumns v_row v_column v_below v_face v_worn v_lastBend =>
    if (64 : Int32) ≤ x2 then
    (some (v_shapeRows, v_shapeColumns, v_row, v_column, v_below, v_face, v_worn, v_lastBend))
    else (mm_ck (mm_inb x2 v_worn.length) (mm_nm ((mm_ig v_worn x2)) (fun (y_10 : Int32) =>
    mm_ck (mm_inb (((64 : Int32) * x1) + x2) v_worn.length) (mm_nm (mm_is v_worn (((64 : Int32) * x1) + x2) y_10) (fun (l_12 : List Int32) =>
    mm_ck (mm_inb x2 v_lastBend.length) (mm_nm ((mm_ig v_lastBend x2)) (fun (y_14 : Int32) =>
    mm_ck (mm_inb (((64 : Int32) * x1) + x2) v_lastBend.length) (mm_nm (mm_is v_lastBend (((64 : Int32) * x1) + x2) y_14) (fun (l_16 : List Int32) =>
    mm_nm (x2 + (1 : Int32)) (fun (y_17 : Int32) =>
    fX9_startsAt_7 N n x1 y_17 v_rowsOf v_columnsOf v_shapeRows v_shapeColumns v_row v_column v_below v_face l_12 l_16))))))))))

set_option maxHeartbeats 4000000 in
set_option maxRecDepth 100000 in
theorem tX9_startsAt_7 {p : Program} {l : Launch} {e : Env} {s : State} {m : MethodId} {args : Array Value} {below : List Frame} {meth : Method} {c : Code} {D : va_G} {cI cL cS cH : ClassId} {A : Nat → Prop} {d : Nat} {a : Nat → Nat} (hd : 3 ≤ d) (C0 : mm_Cx p s m args meth c RX9 cX9_startsAt 3 none D (mm_T cI cL cS cH) A) (hA : ∀ q, s.heap.size ≤ q → A q) {v_keptMany : Int32} {v_done : Int32} {v_folded : Int32} {v_wronged : Int32} {v_tapeMany : Int32} {v_textMany : Int32} {v_base : Int32} {v_at : Int32} {v_ends : Int32} {v_fault : Int32} {v_opened : Int32} {v_bentMany : Int32} {v_bentWrong : Int32} {v_moreWorn : Int32} {v_planned : Int32} {v_allWrong : Int32} {v_allWorn : Int32} {v_z : Int32} {v_wishedField : Int32} {v_isFound : Bool} {v_bestWrong : Int32} {v_bestWorn : Int32} {v_bestMany : Int32} {v_soughtBy : Int32} {v_sought : Int32} {v_soughtAt : Int32} {v_foundMany : Int32} {v_foundOrder : Int32} {v_isKept : Bool} {v_imageRows : Int32} {v_imageColumns : Int32} {v_imageFolded : Int32} {v_imageWronged : Int32} {v_bodies : Int32} {v_ran : Int32} {v_ownKind : Int32} {v_ownNumber : Int32} {v_limit : List Int32} {v_changeWas : List Int32} {v_changeIs : List Int32} {v_tape : List Int32} {v_text : List Int32} {v_names : List Int32} {v_bends : List Int32} {v_high : List Int32} {v_to : List Int32} {v_pileSize : List Int32} {v_planLine : List Int32} {v_planWay : List Int32} {v_way1 : List Int32} {v_bestWay : List Int32} {v_order1 : List Int32} {v_placeIn : List Int32} {v_bodyKind : List Int32} {v_trace : List Int32} {v_shelf : List Int32} {v_many : List Int32} {v_items : List Int64} {v_carried : List Int64} {w_shapeRows : List Int32} {w_shapeColumns : List Int32} {w_row : List Int32} {w_column : List Int32} {w_below : List Int32} {w_face : List Int32} {w_worn : List Int32} {w_lastBend : List Int32} (N : Nat)  : ∀ (n : Nat), ∀ (x1 : Int32) (x2 : Int32) (v_rowsOf : Int32) (v_columnsOf : Int32) (v_shapeRows : List Int32) (v_shapeColumns : List Int32) (v_row : List Int32) (v_column : List Int32) (v_below : List Int32) (v_face : List Int32) (v_worn : List Int32) (v_lastBend : List Int32) (H : Heap) (locs : List Loc) (ls : Array Slot), fX9_startsAt_7 N n x1 x2 v_rowsOf v_columnsOf v_shapeRows v_shapeColumns v_row v_column v_below v_face v_worn v_lastBend = some (w_shapeRows, w_shapeColumns, w_row, w_column, w_below, w_face, w_worn, w_lastBend) → va_P D mm_cl (wd_X9 cI cL cS cH a v_keptMany v_done v_rowsOf v_columnsOf v_folded v_wronged v_tapeMany v_textMany v_base v_at v_ends v_fault v_opened v_bentMany v_bentWrong v_moreWorn v_planned v_allWrong v_allWorn v_z v_wishedField v_isFound v_bestWrong v_bestWorn v_bestMany v_soughtBy v_sought v_soughtAt v_foundMany v_foundOrder v_isKept v_imageRows v_imageColumns v_imageFolded v_imageWronged v_bodies v_ran v_ownKind v_ownNumber v_limit v_changeWas v_changeIs v_shapeRows v_shapeColumns v_row v_column v_below v_face v_worn v_lastBend v_tape v_text v_names v_bends v_high v_to v_pileSize v_planLine v_planWay v_way1 v_bestWay v_order1 v_placeIn v_bodyKind v_trace v_shelf v_many v_items v_carried) H → va_D A (wd_X9 cI cL cS cH a v_keptMany v_done v_rowsOf v_columnsOf v_folded v_wronged v_tapeMany v_textMany v_base v_at v_ends v_fault v_opened v_bentMany v_bentWrong v_moreWorn v_planned v_allWrong v_allWorn v_z v_wishedField v_isFound v_bestWrong v_bestWorn v_bestMany v_soughtBy v_sought v_soughtAt v_foundMany v_foundOrder v_isKept v_imageRows v_imageColumns v_imageFolded v_imageWronged v_bodies v_ran v_ownKind v_ownNumber v_limit v_changeWas v_changeIs v_shapeRows v_shapeColumns v_row v_column v_below v_face v_worn v_lastBend v_tape v_text v_names v_bends v_high v_to v_pileSize v_planLine v_planWay v_way1 v_bestWay v_order1 v_placeIn v_bodyKind v_trace v_shelf v_many v_items v_carried) → va_S A s.heap H locs → lv_has ls 3 [(0, .ref (a 0)), (1, .int x1), (2, .int x2)] → W p l e (mm_rr d) s m args below meth c H locs 0 0 (mm_Z below D A (wd_X9 cI cL cS cH a v_keptMany v_done v_rowsOf v_columnsOf v_folded v_wronged v_tapeMany v_textMany v_base v_at v_ends v_fault v_opened v_bentMany v_bentWrong v_moreWorn v_planned v_allWrong v_allWorn v_z v_wishedField v_isFound v_bestWrong v_bestWorn v_bestMany v_soughtBy v_sought v_soughtAt v_foundMany v_foundOrder v_isKept v_imageRows v_imageColumns v_imageFolded v_imageWronged v_bodies v_ran v_ownKind v_ownNumber v_limit v_changeWas v_changeIs w_shapeRows w_shapeColumns w_row w_column w_below w_face w_worn w_lastBend v_tape v_text v_names v_bends v_high v_to v_pileSize v_planLine v_planWay v_way1 v_bestWay v_order1 v_placeIn v_bodyKind v_trace v_shelf v_many v_items v_carried) none args s) (F0 m 7 ls []) := by
  obtain ⟨hx, hb, hml, hown, hts, hr, hlocks, hK, hSt⟩ := id C0
  intro n
  induction n with
  | zero =>
    intro x1 x2 v_rowsOf v_columnsOf v_shapeRows v_shapeColumns v_row v_column v_below v_face v_worn v_lastBend H locs ls hf
    cases (show none = some _ from hf)
  | succ n ih =>
    intro x1 x2 v_rowsOf v_columnsOf v_shapeRows v_shapeColumns v_row v_column v_below v_face v_worn v_lastBend H locs ls hf hP hD hS hl
    unfold fX9_startsAt_7 at hf
    refine lv_iload_n hx hb dX9_startsAt_7 rfl (lv_at hl 2 rfl) ?_
    refine lv_bipush (v := 64) hx hb dX9_startsAt_8 (by decide) ?_
    refine lv_icmp_ge (tgt := 53) hx hb dX9_startsAt_10 (by decide) (fun c_8 => ?_) (fun c_8 => ?_)
    · have hf := mm_ip hf c_8
      apply mm_sub8 hf
      exact mm_vret C0 hP hD hS dX9_startsAt_53
    · have hf := mm_in hf c_8
      refine lv_aload_n hx hb dX9_startsAt_13 rfl (lv_at hl 0 rfl) ?_
      refine mm_get C0 hP iw_X9 0 rfl rfl 13 (by decide) fl_X9_37 rfl dX9_startsAt_14 ?_
      refine lv_bipush (v := 64) hx hb dX9_startsAt_17 (by decide) ?_
      refine lv_iload_n hx hb dX9_startsAt_19 rfl (lv_at hl 1 rfl) ?_
      refine lv_imul hx hb dX9_startsAt_20 ?_
      refine lv_iload_n hx hb dX9_startsAt_21 rfl (lv_at hl 2 rfl) ?_
      refine lv_iadd hx hb dX9_startsAt_22 ?_
      refine lv_aload_n hx hb dX9_startsAt_23 rfl (lv_at hl 0 rfl) ?_
      refine mm_get C0 hP iw_X9 0 rfl rfl 13 (by decide) fl_X9_37 rfl dX9_startsAt_24 ?_
      refine lv_iload_n hx hb dX9_startsAt_27 rfl (lv_at hl 2 rfl) ?_
      obtain ⟨h_9, hf⟩ := mm_cks hf
      refine mm_iald C0 hP 10 rfl h_9 dX9_startsAt_28 ?_
      refine lv_topi (fun y_10 ey_10 => ?_)
      have hf := mm_nms hf ey_10
      obtain ⟨h_11, hf⟩ := mm_cks hf
      refine mm_iast C0 hP hD hS 10 rfl h_11 dX9_startsAt_29 (w2 := (wd_X9 cI cL cS cH a v_keptMany v_done v_rowsOf v_columnsOf v_folded v_wronged v_tapeMany v_textMany v_base v_at v_ends v_fault v_opened v_bentMany v_bentWrong v_moreWorn v_planned v_allWrong v_allWorn v_z v_wishedField v_isFound v_bestWrong v_bestWorn v_bestMany v_soughtBy v_sought v_soughtAt v_foundMany v_foundOrder v_isKept v_imageRows v_imageColumns v_imageFolded v_imageWronged v_bodies v_ran v_ownKind v_ownNumber v_limit v_changeWas v_changeIs v_shapeRows v_shapeColumns v_row v_column v_below v_face (mm_is v_worn (((64 : Int32) * x1) + x2) y_10) v_lastBend v_tape v_text v_names v_bends v_high v_to v_pileSize v_planLine v_planWay v_way1 v_bestWay v_order1 v_placeIn v_bodyKind v_trace v_shelf v_many v_items v_carried)) rfl (fun H locs hP hD hS => ?_)
      generalize el_12 : (mm_is v_worn (((64 : Int32) * x1) + x2) y_10) = l_12 at hP hD
      have hf := mm_nms hf el_12.symm
      refine lv_aload_n hx hb dX9_startsAt_30 rfl (lv_at hl 0 rfl) ?_
      refine mm_get C0 hP iw_X9 0 rfl rfl 14 (by decide) fl_X9_40 rfl dX9_startsAt_31 ?_
      refine lv_bipush (v := 64) hx hb dX9_startsAt_34 (by decide) ?_
      refine lv_iload_n hx hb dX9_startsAt_36 rfl (lv_at hl 1 rfl) ?_
      refine lv_imul hx hb dX9_startsAt_37 ?_
      refine lv_iload_n hx hb dX9_startsAt_38 rfl (lv_at hl 2 rfl) ?_
      refine lv_iadd hx hb dX9_startsAt_39 ?_
      refine lv_aload_n hx hb dX9_startsAt_40 rfl (lv_at hl 0 rfl) ?_
      refine mm_get C0 hP iw_X9 0 rfl rfl 14 (by decide) fl_X9_40 rfl dX9_startsAt_41 ?_
      refine lv_iload_n hx hb dX9_startsAt_44 rfl (lv_at hl 2 rfl) ?_
      obtain ⟨h_13, hf⟩ := mm_cks hf
      refine mm_iald C0 hP 11 rfl h_13 dX9_startsAt_45 ?_
      refine lv_topi (fun y_14 ey_14 => ?_)
      have hf := mm_nms hf ey_14
      obtain ⟨h_15, hf⟩ := mm_cks hf
      refine mm_iast C0 hP hD hS 11 rfl h_15 dX9_startsAt_46 (w2 := (wd_X9 cI cL cS cH a v_keptMany v_done v_rowsOf v_columnsOf v_folded v_wronged v_tapeMany v_textMany v_base v_at v_ends v_fault v_opened v_bentMany v_bentWrong v_moreWorn v_planned v_allWrong v_allWorn v_z v_wishedField v_isFound v_bestWrong v_bestWorn v_bestMany v_soughtBy v_sought v_soughtAt v_foundMany v_foundOrder v_isKept v_imageRows v_imageColumns v_imageFolded v_imageWronged v_bodies v_ran v_ownKind v_ownNumber v_limit v_changeWas v_changeIs v_shapeRows v_shapeColumns v_row v_column v_below v_face l_12 (mm_is v_lastBend (((64 : Int32) * x1) + x2) y_14) v_tape v_text v_names v_bends v_high v_to v_pileSize v_planLine v_planWay v_way1 v_bestWay v_order1 v_placeIn v_bodyKind v_trace v_shelf v_many v_items v_carried)) rfl (fun H locs hP hD hS => ?_)
      generalize el_16 : (mm_is v_lastBend (((64 : Int32) * x1) + x2) y_14) = l_16 at hP hD
      have hf := mm_nms hf el_16.symm
      obtain ⟨y_17, ey_17⟩ : ∃ z : Int32, z = x2 + (1 : Int32) := ⟨_, rfl⟩
      have hf := mm_nms hf ey_17
      refine lv_iinc (v := y_17) (lv' := [(2, .int y_17), (0, .ref (a 0)), (1, .int x1)]) hx hb dX9_startsAt_47 hl (k := 2) rfl (by rw [ey_17]; rfl) (by decide) rfl (fun ls hl => ?_)
      refine lv_goto (tgt := 7) hx hb dX9_startsAt_50 (by decide) ?_
      exact ih _ _ _ _ _ _ _ _ _ _ _ _ H locs ls hf hP hD hS (lv_sub hl [1, 2, 0] rfl)

def fX9_startsAt (N : Nat) (x1 : Int32) (v_rowsOf : Int32) (v_columnsOf : Int32) (v_shapeRows : List Int32) (v_shapeColumns : List Int32) (v_row : List Int32) (v_column : List Int32) (v_below : List Int32) (v_face : List Int32) (v_worn : List Int32) (v_lastBend : List Int32) : Option (List Int32 × List Int32 × List Int32 × List Int32 × List Int32 × List Int32 × List Int32 × List Int32) :=
    mm_bd6 (fX9_liesFlat N x1 v_rowsOf v_columnsOf v_shapeRows v_shapeColumns v_row v_column v_below v_face) (fun (w_1 : List Int32) (w_2 : List Int32) (w_3 : List Int32) (w_4 : List Int32) (w_5 : List Int32) (w_6 : List Int32) =>
    fX9_startsAt_7 N N x1 (0 : Int32) v_rowsOf v_columnsOf w_1 w_2 w_3 w_4 w_5 w_6 v_worn v_lastBend)

set_option maxHeartbeats 4000000 in
set_option maxRecDepth 100000 in
theorem ctX9_startsAt {l : Launch} {D : va_G} {cI cL cS cH : ClassId} {a : Nat → Nat} {x1 : Int32} {v_keptMany : Int32} {v_done : Int32} {v_rowsOf : Int32} {v_columnsOf : Int32} {v_folded : Int32} {v_wronged : Int32} {v_tapeMany : Int32} {v_textMany : Int32} {v_base : Int32} {v_at : Int32} {v_ends : Int32} {v_fault : Int32} {v_opened : Int32} {v_bentMany : Int32} {v_bentWrong : Int32} {v_moreWorn : Int32} {v_planned : Int32} {v_allWrong : Int32} {v_allWorn : Int32} {v_z : Int32} {v_wishedField : Int32} {v_isFound : Bool} {v_bestWrong : Int32} {v_bestWorn : Int32} {v_bestMany : Int32} {v_soughtBy : Int32} {v_sought : Int32} {v_soughtAt : Int32} {v_foundMany : Int32} {v_foundOrder : Int32} {v_isKept : Bool} {v_imageRows : Int32} {v_imageColumns : Int32} {v_imageFolded : Int32} {v_imageWronged : Int32} {v_bodies : Int32} {v_ran : Int32} {v_ownKind : Int32} {v_ownNumber : Int32} {v_limit : List Int32} {v_changeWas : List Int32} {v_changeIs : List Int32} {v_shapeRows : List Int32} {v_shapeColumns : List Int32} {v_row : List Int32} {v_column : List Int32} {v_below : List Int32} {v_face : List Int32} {v_worn : List Int32} {v_lastBend : List Int32} {v_tape : List Int32} {v_text : List Int32} {v_names : List Int32} {v_bends : List Int32} {v_high : List Int32} {v_to : List Int32} {v_pileSize : List Int32} {v_planLine : List Int32} {v_planWay : List Int32} {v_way1 : List Int32} {v_bestWay : List Int32} {v_order1 : List Int32} {v_placeIn : List Int32} {v_bodyKind : List Int32} {v_trace : List Int32} {v_shelf : List Int32} {v_many : List Int32} {v_items : List Int64} {v_carried : List Int64} {w_shapeRows : List Int32} {w_shapeColumns : List Int32} {w_row : List Int32} {w_column : List Int32} {w_below : List Int32} {w_face : List Int32} {w_worn : List Int32} {w_lastBend : List Int32} {N d : Nat} (hd : 3 ≤ d) (hf : fX9_startsAt N x1 v_rowsOf v_columnsOf v_shapeRows v_shapeColumns v_row v_column v_below v_face v_worn v_lastBend = some (w_shapeRows, w_shapeColumns, w_row, w_column, w_below, w_face, w_worn, w_lastBend)) : mm_Ct l yX9_startsAt cX9_startsAt 3 none d D (mm_T cI cL cS cH) [.ref (a 0), .int x1] (wd_X9 cI cL cS cH a v_keptMany v_done v_rowsOf v_columnsOf v_folded v_wronged v_tapeMany v_textMany v_base v_at v_ends v_fault v_opened v_bentMany v_bentWrong v_moreWorn v_planned v_allWrong v_allWorn v_z v_wishedField v_isFound v_bestWrong v_bestWorn v_bestMany v_soughtBy v_sought v_soughtAt v_foundMany v_foundOrder v_isKept v_imageRows v_imageColumns v_imageFolded v_imageWronged v_bodies v_ran v_ownKind v_ownNumber v_limit v_changeWas v_changeIs v_shapeRows v_shapeColumns v_row v_column v_below v_face v_worn v_lastBend v_tape v_text v_names v_bends v_high v_to v_pileSize v_planLine v_planWay v_way1 v_bestWay v_order1 v_placeIn v_bodyKind v_trace v_shelf v_many v_items v_carried) (wd_X9 cI cL cS cH a v_keptMany v_done v_rowsOf v_columnsOf v_folded v_wronged v_tapeMany v_textMany v_base v_at v_ends v_fault v_opened v_bentMany v_bentWrong v_moreWorn v_planned v_allWrong v_allWorn v_z v_wishedField v_isFound v_bestWrong v_bestWorn v_bestMany v_soughtBy v_sought v_soughtAt v_foundMany v_foundOrder v_isKept v_imageRows v_imageColumns v_imageFolded v_imageWronged v_bodies v_ran v_ownKind v_ownNumber v_limit v_changeWas v_changeIs w_shapeRows w_shapeColumns w_row w_column w_below w_face w_worn w_lastBend v_tape v_text v_names v_bends v_high v_to v_pileSize v_planLine v_planWay v_way1 v_bestWay v_order1 v_placeIn v_bodyKind v_trace v_shelf v_many v_items v_carried) none := by
  refine mm_of (by decide) (Nat.le_of_ble_eq_true rfl) ?_
  intro p e s m args below meth c A H locs ls C0 hP hD hA hS hl
  have C0 : mm_Cx p s m args meth c RX9 cX9_startsAt 3 none D (mm_T cI cL cS cH) A := C0
  obtain ⟨hx, hb, hml, hown, hts, hr, hlocks, hK, hSt⟩ := id C0
  have hl : lv_has ls 3 [(0, .ref (a 0)), (1, .int x1)] := hl
  unfold fX9_startsAt at hf
  refine lv_aload_n hx hb dX9_startsAt_0 rfl (lv_at hl 0 rfl) ?_
  refine lv_iload_n hx hb dX9_startsAt_1 rfl (lv_at hl 1 rfl) ?_
  refine mm_ct6 hf (fun w_1 w_2 w_3 w_4 w_5 w_6 hc_7 hf => ?_)
  refine mm_callVF (q0 := 0) (ci := 9) (rest := []) C0 lk_X9_131 (ctX9_liesFlat (a := a) (d := d - 1) (by omega) hc_7) (by omega) rfl hl.1 rfl (mm_cat rfl) dX9_startsAt_2 hP hD hA hS rfl rfl (fun H locs hP hD hS => ?_)
  refine W.eq (g2 := F0 m 5 ls []) rfl ?_
  refine lv_iconst (v := 0) hx hb dX9_startsAt_5 (by decide) ?_
  refine lv_istore_n (lv' := [(2, .int (0 : Int32)), (0, .ref (a 0)), (1, .int x1)]) hx hb dX9_startsAt_6 rfl hl (by decide) rfl (fun ls hl => ?_)
  exact tX9_startsAt_7 hd C0 hA N  N _ _ _ _ _ _ _ _ _ _ _ _ H locs ls hf hP hD hS (lv_sub hl [1, 2, 0] rfl)

