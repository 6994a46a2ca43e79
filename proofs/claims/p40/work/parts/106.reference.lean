/-! reference: X9_bendOf -/
theorem dX9_bendOf_0 : decode cX9_bendOf 0 = .ok (.iload_n 2, 1) := by decide +kernel
theorem dX9_bendOf_1 : decode cX9_bendOf 1 = .ok (.iconst 2, 1) := by decide +kernel
theorem dX9_bendOf_2 : decode cX9_bendOf 2 = .ok (.idiv, 1) := by decide +kernel
theorem dX9_bendOf_3 : decode cX9_bendOf 3 = .ok (.istore 5, 2) := by decide +kernel
theorem dX9_bendOf_5 : decode cX9_bendOf 5 = .ok (.aload_n 0, 1) := by decide +kernel
theorem dX9_bendOf_6 : decode cX9_bendOf 6 = .ok (.iload_n 2, 1) := by decide +kernel
theorem dX9_bendOf_7 : decode cX9_bendOf 7 = .ok (.invokevirtual 201, 3) := by decide +kernel
theorem dX9_bendOf_10 : decode cX9_bendOf 10 = .ok (.istore 6, 2) := by decide +kernel
theorem dX9_bendOf_12 : decode cX9_bendOf 12 = .ok (.iload 4, 2) := by decide +kernel
theorem dX9_bendOf_14 : decode cX9_bendOf 14 = .ok (.iconst 4, 1) := by decide +kernel
theorem dX9_bendOf_15 : decode cX9_bendOf 15 = .ok (.if_icmp .ge 7, 3) := by decide +kernel
theorem dX9_bendOf_18 : decode cX9_bendOf 18 = .ok (.iconst 1, 1) := by decide +kernel
theorem dX9_bendOf_19 : decode cX9_bendOf 19 = .ok (.goto 4, 3) := by decide +kernel
theorem dX9_bendOf_22 : decode cX9_bendOf 22 = .ok (.iconst 0, 1) := by decide +kernel
theorem dX9_bendOf_23 : decode cX9_bendOf 23 = .ok (.istore 7, 2) := by decide +kernel
theorem dX9_bendOf_25 : decode cX9_bendOf 25 = .ok (.aload_n 0, 1) := by decide +kernel
theorem dX9_bendOf_26 : decode cX9_bendOf 26 = .ok (.iload_n 1, 1) := by decide +kernel
theorem dX9_bendOf_27 : decode cX9_bendOf 27 = .ok (.iload 5, 2) := by decide +kernel
theorem dX9_bendOf_29 : decode cX9_bendOf 29 = .ok (.iload 7, 2) := by decide +kernel
theorem dX9_bendOf_31 : decode cX9_bendOf 31 = .ok (.invokevirtual 204, 3) := by decide +kernel
theorem dX9_bendOf_34 : decode cX9_bendOf 34 = .ok (.istore 8, 2) := by decide +kernel
theorem dX9_bendOf_36 : decode cX9_bendOf 36 = .ok (.aload_n 0, 1) := by decide +kernel
theorem dX9_bendOf_37 : decode cX9_bendOf 37 = .ok (.iload_n 1, 1) := by decide +kernel
theorem dX9_bendOf_38 : decode cX9_bendOf 38 = .ok (.iload 6, 2) := by decide +kernel
theorem dX9_bendOf_40 : decode cX9_bendOf 40 = .ok (.iload 7, 2) := by decide +kernel
theorem dX9_bendOf_42 : decode cX9_bendOf 42 = .ok (.invokevirtual 204, 3) := by decide +kernel
theorem dX9_bendOf_45 : decode cX9_bendOf 45 = .ok (.istore 9, 2) := by decide +kernel
theorem dX9_bendOf_47 : decode cX9_bendOf 47 = .ok (.iload 8, 2) := by decide +kernel
theorem dX9_bendOf_49 : decode cX9_bendOf 49 = .ok (.iload_n 3, 1) := by decide +kernel
theorem dX9_bendOf_50 : decode cX9_bendOf 50 = .ok (.iconst 1, 1) := by decide +kernel
theorem dX9_bendOf_51 : decode cX9_bendOf 51 = .ok (.isub, 1) := by decide +kernel
theorem dX9_bendOf_52 : decode cX9_bendOf 52 = .ok (.if_icmp .ne 9, 3) := by decide +kernel
theorem dX9_bendOf_55 : decode cX9_bendOf 55 = .ok (.iload 9, 2) := by decide +kernel
theorem dX9_bendOf_57 : decode cX9_bendOf 57 = .ok (.iload_n 3, 1) := by decide +kernel
theorem dX9_bendOf_58 : decode cX9_bendOf 58 = .ok (.if_icmp .eq 17, 3) := by decide +kernel
theorem dX9_bendOf_61 : decode cX9_bendOf 61 = .ok (.iload 8, 2) := by decide +kernel
theorem dX9_bendOf_63 : decode cX9_bendOf 63 = .ok (.iload_n 3, 1) := by decide +kernel
theorem dX9_bendOf_64 : decode cX9_bendOf 64 = .ok (.if_icmp .ne 15, 3) := by decide +kernel
theorem dX9_bendOf_67 : decode cX9_bendOf 67 = .ok (.iload 9, 2) := by decide +kernel
theorem dX9_bendOf_69 : decode cX9_bendOf 69 = .ok (.iload_n 3, 1) := by decide +kernel
theorem dX9_bendOf_70 : decode cX9_bendOf 70 = .ok (.iconst 1, 1) := by decide +kernel
theorem dX9_bendOf_71 : decode cX9_bendOf 71 = .ok (.isub, 1) := by decide +kernel
theorem dX9_bendOf_72 : decode cX9_bendOf 72 = .ok (.if_icmp .ne 7, 3) := by decide +kernel
theorem dX9_bendOf_75 : decode cX9_bendOf 75 = .ok (.iconst 1, 1) := by decide +kernel
theorem dX9_bendOf_76 : decode cX9_bendOf 76 = .ok (.goto 4, 3) := by decide +kernel
theorem dX9_bendOf_79 : decode cX9_bendOf 79 = .ok (.iconst 0, 1) := by decide +kernel
theorem dX9_bendOf_80 : decode cX9_bendOf 80 = .ok (.istore 10, 2) := by decide +kernel
theorem dX9_bendOf_82 : decode cX9_bendOf 82 = .ok (.iload 10, 2) := by decide +kernel
theorem dX9_bendOf_84 : decode cX9_bendOf 84 = .ok (.ifCond .eq 60, 3) := by decide +kernel
theorem dX9_bendOf_87 : decode cX9_bendOf 87 = .ok (.aload_n 0, 1) := by decide +kernel
theorem dX9_bendOf_88 : decode cX9_bendOf 88 = .ok (.iload_n 1, 1) := by decide +kernel
theorem dX9_bendOf_89 : decode cX9_bendOf 89 = .ok (.iload 5, 2) := by decide +kernel
theorem dX9_bendOf_91 : decode cX9_bendOf 91 = .ok (.iload 7, 2) := by decide +kernel
theorem dX9_bendOf_93 : decode cX9_bendOf 93 = .ok (.ifCond .ne 7, 3) := by decide +kernel
theorem dX9_bendOf_96 : decode cX9_bendOf 96 = .ok (.iconst 1, 1) := by decide +kernel
theorem dX9_bendOf_97 : decode cX9_bendOf 97 = .ok (.goto 4, 3) := by decide +kernel
theorem dX9_bendOf_100 : decode cX9_bendOf 100 = .ok (.iconst 0, 1) := by decide +kernel
theorem dX9_bendOf_101 : decode cX9_bendOf 101 = .ok (.invokevirtual 204, 3) := by decide +kernel
theorem dX9_bendOf_104 : decode cX9_bendOf 104 = .ok (.aload_n 0, 1) := by decide +kernel
theorem dX9_bendOf_105 : decode cX9_bendOf 105 = .ok (.iload_n 1, 1) := by decide +kernel
theorem dX9_bendOf_106 : decode cX9_bendOf 106 = .ok (.iload 6, 2) := by decide +kernel
theorem dX9_bendOf_108 : decode cX9_bendOf 108 = .ok (.iload 7, 2) := by decide +kernel
theorem dX9_bendOf_110 : decode cX9_bendOf 110 = .ok (.ifCond .ne 7, 3) := by decide +kernel
theorem dX9_bendOf_113 : decode cX9_bendOf 113 = .ok (.iconst 1, 1) := by decide +kernel
theorem dX9_bendOf_114 : decode cX9_bendOf 114 = .ok (.goto 4, 3) := by decide +kernel
theorem dX9_bendOf_117 : decode cX9_bendOf 117 = .ok (.iconst 0, 1) := by decide +kernel
theorem dX9_bendOf_118 : decode cX9_bendOf 118 = .ok (.invokevirtual 204, 3) := by decide +kernel
theorem dX9_bendOf_121 : decode cX9_bendOf 121 = .ok (.if_icmp .ne 23, 3) := by decide +kernel
theorem dX9_bendOf_124 : decode cX9_bendOf 124 = .ok (.aload_n 0, 1) := by decide +kernel
theorem dX9_bendOf_125 : decode cX9_bendOf 125 = .ok (.getfield 37, 3) := by decide +kernel
theorem dX9_bendOf_128 : decode cX9_bendOf 128 = .ok (.bipush 64, 2) := by decide +kernel
theorem dX9_bendOf_130 : decode cX9_bendOf 130 = .ok (.iload_n 1, 1) := by decide +kernel
theorem dX9_bendOf_131 : decode cX9_bendOf 131 = .ok (.imul, 1) := by decide +kernel
theorem dX9_bendOf_132 : decode cX9_bendOf 132 = .ok (.iload_n 2, 1) := by decide +kernel
theorem dX9_bendOf_133 : decode cX9_bendOf 133 = .ok (.iadd, 1) := by decide +kernel
theorem dX9_bendOf_134 : decode cX9_bendOf 134 = .ok (.iaload, 1) := by decide +kernel
theorem dX9_bendOf_135 : decode cX9_bendOf 135 = .ok (.aload_n 0, 1) := by decide +kernel
theorem dX9_bendOf_136 : decode cX9_bendOf 136 = .ok (.getfield 7, 3) := by decide +kernel
theorem dX9_bendOf_139 : decode cX9_bendOf 139 = .ok (.iconst 0, 1) := by decide +kernel
theorem dX9_bendOf_140 : decode cX9_bendOf 140 = .ok (.iaload, 1) := by decide +kernel
theorem dX9_bendOf_141 : decode cX9_bendOf 141 = .ok (.if_icmp .lt 5, 3) := by decide +kernel
theorem dX9_bendOf_144 : decode cX9_bendOf 144 = .ok (.iconst 0, 1) := by decide +kernel
theorem dX9_bendOf_145 : decode cX9_bendOf 145 = .ok (.ireturn, 1) := by decide +kernel
theorem dX9_bendOf_146 : decode cX9_bendOf 146 = .ok (.iload 4, 2) := by decide +kernel
theorem dX9_bendOf_148 : decode cX9_bendOf 148 = .ok (.iconst 4, 1) := by decide +kernel
theorem dX9_bendOf_149 : decode cX9_bendOf 149 = .ok (.irem, 1) := by decide +kernel
theorem dX9_bendOf_150 : decode cX9_bendOf 150 = .ok (.iconst 2, 1) := by decide +kernel
theorem dX9_bendOf_151 : decode cX9_bendOf 151 = .ok (.if_icmp .ge 7, 3) := by decide +kernel
theorem dX9_bendOf_154 : decode cX9_bendOf 154 = .ok (.iconst 1, 1) := by decide +kernel
theorem dX9_bendOf_155 : decode cX9_bendOf 155 = .ok (.goto 4, 3) := by decide +kernel
theorem dX9_bendOf_158 : decode cX9_bendOf 158 = .ok (.iconst 0, 1) := by decide +kernel
theorem dX9_bendOf_159 : decode cX9_bendOf 159 = .ok (.istore 11, 2) := by decide +kernel
theorem dX9_bendOf_161 : decode cX9_bendOf 161 = .ok (.iload 8, 2) := by decide +kernel
theorem dX9_bendOf_163 : decode cX9_bendOf 163 = .ok (.iload_n 3, 1) := by decide +kernel
theorem dX9_bendOf_164 : decode cX9_bendOf 164 = .ok (.if_icmp .ge 7, 3) := by decide +kernel
theorem dX9_bendOf_167 : decode cX9_bendOf 167 = .ok (.iconst 1, 1) := by decide +kernel
theorem dX9_bendOf_168 : decode cX9_bendOf 168 = .ok (.goto 4, 3) := by decide +kernel
theorem dX9_bendOf_171 : decode cX9_bendOf 171 = .ok (.iconst 0, 1) := by decide +kernel
theorem dX9_bendOf_172 : decode cX9_bendOf 172 = .ok (.iload 11, 2) := by decide +kernel
theorem dX9_bendOf_174 : decode cX9_bendOf 174 = .ok (.if_icmp .ne 8, 3) := by decide +kernel
theorem dX9_bendOf_177 : decode cX9_bendOf 177 = .ok (.iload 5, 2) := by decide +kernel
theorem dX9_bendOf_179 : decode cX9_bendOf 179 = .ok (.goto 5, 3) := by decide +kernel
theorem dX9_bendOf_182 : decode cX9_bendOf 182 = .ok (.iload 6, 2) := by decide +kernel
theorem dX9_bendOf_184 : decode cX9_bendOf 184 = .ok (.istore 12, 2) := by decide +kernel
theorem dX9_bendOf_186 : decode cX9_bendOf 186 = .ok (.iload 4, 2) := by decide +kernel
theorem dX9_bendOf_188 : decode cX9_bendOf 188 = .ok (.iconst 2, 1) := by decide +kernel
theorem dX9_bendOf_189 : decode cX9_bendOf 189 = .ok (.irem, 1) := by decide +kernel
theorem dX9_bendOf_190 : decode cX9_bendOf 190 = .ok (.ifCond .ne 7, 3) := by decide +kernel
theorem dX9_bendOf_193 : decode cX9_bendOf 193 = .ok (.iconst 1, 1) := by decide +kernel
theorem dX9_bendOf_194 : decode cX9_bendOf 194 = .ok (.goto 4, 3) := by decide +kernel
theorem dX9_bendOf_197 : decode cX9_bendOf 197 = .ok (.iconst 0, 1) := by decide +kernel
theorem dX9_bendOf_198 : decode cX9_bendOf 198 = .ok (.istore 13, 2) := by decide +kernel
theorem dX9_bendOf_200 : decode cX9_bendOf 200 = .ok (.aload_n 0, 1) := by decide +kernel
theorem dX9_bendOf_201 : decode cX9_bendOf 201 = .ok (.getfield 34, 3) := by decide +kernel
theorem dX9_bendOf_204 : decode cX9_bendOf 204 = .ok (.bipush 32, 2) := by decide +kernel
theorem dX9_bendOf_206 : decode cX9_bendOf 206 = .ok (.iload_n 1, 1) := by decide +kernel
theorem dX9_bendOf_207 : decode cX9_bendOf 207 = .ok (.imul, 1) := by decide +kernel
theorem dX9_bendOf_208 : decode cX9_bendOf 208 = .ok (.iload 12, 2) := by decide +kernel
theorem dX9_bendOf_210 : decode cX9_bendOf 210 = .ok (.iadd, 1) := by decide +kernel
theorem dX9_bendOf_211 : decode cX9_bendOf 211 = .ok (.iaload, 1) := by decide +kernel
theorem dX9_bendOf_212 : decode cX9_bendOf 212 = .ok (.ifCond .ne 7, 3) := by decide +kernel
theorem dX9_bendOf_215 : decode cX9_bendOf 215 = .ok (.iconst 1, 1) := by decide +kernel
theorem dX9_bendOf_216 : decode cX9_bendOf 216 = .ok (.goto 4, 3) := by decide +kernel
theorem dX9_bendOf_219 : decode cX9_bendOf 219 = .ok (.iconst 0, 1) := by decide +kernel
theorem dX9_bendOf_220 : decode cX9_bendOf 220 = .ok (.iload 13, 2) := by decide +kernel
theorem dX9_bendOf_222 : decode cX9_bendOf 222 = .ok (.if_icmp .ne 7, 3) := by decide +kernel
theorem dX9_bendOf_225 : decode cX9_bendOf 225 = .ok (.iconst 1, 1) := by decide +kernel
theorem dX9_bendOf_226 : decode cX9_bendOf 226 = .ok (.goto 4, 3) := by decide +kernel
theorem dX9_bendOf_229 : decode cX9_bendOf 229 = .ok (.iconst 2, 1) := by decide +kernel
theorem dX9_bendOf_230 : decode cX9_bendOf 230 = .ok (.ireturn, 1) := by decide +kernel
def fX9_bendOf_220 (N : Nat)  (x13 : Int32) (s0 : Int32) (v_columnsOf : Int32) (v_limit : List Int32) (v_row : List Int32) (v_column : List Int32) (v_face : List Int32) (v_worn : List Int32) : Option (Int32) :=
    if s0 = x13 then
    (some ((1 : Int32)))
    else (some ((2 : Int32)))

set_option maxHeartbeats 4000000 in
set_option maxRecDepth 100000 in
theorem tX9_bendOf_220 {p : Program} {l : Launch} {e : Env} {s : State} {m : MethodId} {args : Array Value} {below : List Frame} {meth : Method} {c : Code} {D : va_G} {cI cL cS cH : ClassId} {A : Nat → Prop} {d : Nat} {a : Nat → Nat} (hd : 2 ≤ d) (C0 : mm_Cx p s m args meth c RX9 cX9_bendOf 14 (some .int) D (mm_T cI cL cS cH) A) (hA : ∀ q, s.heap.size ≤ q → A q) {v_keptMany : Int32} {v_done : Int32} {v_rowsOf : Int32} {v_folded : Int32} {v_wronged : Int32} {v_tapeMany : Int32} {v_textMany : Int32} {v_base : Int32} {v_at : Int32} {v_ends : Int32} {v_fault : Int32} {v_opened : Int32} {v_bentMany : Int32} {v_bentWrong : Int32} {v_moreWorn : Int32} {v_planned : Int32} {v_allWrong : Int32} {v_allWorn : Int32} {v_z : Int32} {v_wishedField : Int32} {v_isFound : Bool} {v_bestWrong : Int32} {v_bestWorn : Int32} {v_bestMany : Int32} {v_soughtBy : Int32} {v_sought : Int32} {v_soughtAt : Int32} {v_foundMany : Int32} {v_foundOrder : Int32} {v_isKept : Bool} {v_imageRows : Int32} {v_imageColumns : Int32} {v_imageFolded : Int32} {v_imageWronged : Int32} {v_bodies : Int32} {v_ran : Int32} {v_ownKind : Int32} {v_ownNumber : Int32} {v_changeWas : List Int32} {v_changeIs : List Int32} {v_shapeRows : List Int32} {v_shapeColumns : List Int32} {v_below : List Int32} {v_lastBend : List Int32} {v_tape : List Int32} {v_text : List Int32} {v_names : List Int32} {v_bends : List Int32} {v_high : List Int32} {v_to : List Int32} {v_pileSize : List Int32} {v_planLine : List Int32} {v_planWay : List Int32} {v_way1 : List Int32} {v_bestWay : List Int32} {v_order1 : List Int32} {v_placeIn : List Int32} {v_bodyKind : List Int32} {v_trace : List Int32} {v_shelf : List Int32} {v_many : List Int32} {v_items : List Int64} {v_carried : List Int64} {r : Int32} (N : Nat)  : ∀ (x13 : Int32) (s0 : Int32) (v_columnsOf : Int32) (v_limit : List Int32) (v_row : List Int32) (v_column : List Int32) (v_face : List Int32) (v_worn : List Int32) (H : Heap) (locs : List Loc) (ls : Array Slot), fX9_bendOf_220 N x13 s0 v_columnsOf v_limit v_row v_column v_face v_worn = some r → va_P D mm_cl (wd_X9 cI cL cS cH a v_keptMany v_done v_rowsOf v_columnsOf v_folded v_wronged v_tapeMany v_textMany v_base v_at v_ends v_fault v_opened v_bentMany v_bentWrong v_moreWorn v_planned v_allWrong v_allWorn v_z v_wishedField v_isFound v_bestWrong v_bestWorn v_bestMany v_soughtBy v_sought v_soughtAt v_foundMany v_foundOrder v_isKept v_imageRows v_imageColumns v_imageFolded v_imageWronged v_bodies v_ran v_ownKind v_ownNumber v_limit v_changeWas v_changeIs v_shapeRows v_shapeColumns v_row v_column v_below v_face v_worn v_lastBend v_tape v_text v_names v_bends v_high v_to v_pileSize v_planLine v_planWay v_way1 v_bestWay v_order1 v_placeIn v_bodyKind v_trace v_shelf v_many v_items v_carried) H → va_D A (wd_X9 cI cL cS cH a v_keptMany v_done v_rowsOf v_columnsOf v_folded v_wronged v_tapeMany v_textMany v_base v_at v_ends v_fault v_opened v_bentMany v_bentWrong v_moreWorn v_planned v_allWrong v_allWorn v_z v_wishedField v_isFound v_bestWrong v_bestWorn v_bestMany v_soughtBy v_sought v_soughtAt v_foundMany v_foundOrder v_isKept v_imageRows v_imageColumns v_imageFolded v_imageWronged v_bodies v_ran v_ownKind v_ownNumber v_limit v_changeWas v_changeIs v_shapeRows v_shapeColumns v_row v_column v_below v_face v_worn v_lastBend v_tape v_text v_names v_bends v_high v_to v_pileSize v_planLine v_planWay v_way1 v_bestWay v_order1 v_placeIn v_bodyKind v_trace v_shelf v_many v_items v_carried) → va_S A s.heap H locs → lv_has ls 14 [(13, .int x13)] → W p l e (mm_rr d) s m args below meth c H locs 0 0 (mm_Z below D A (wd_X9 cI cL cS cH a v_keptMany v_done v_rowsOf v_columnsOf v_folded v_wronged v_tapeMany v_textMany v_base v_at v_ends v_fault v_opened v_bentMany v_bentWrong v_moreWorn v_planned v_allWrong v_allWorn v_z v_wishedField v_isFound v_bestWrong v_bestWorn v_bestMany v_soughtBy v_sought v_soughtAt v_foundMany v_foundOrder v_isKept v_imageRows v_imageColumns v_imageFolded v_imageWronged v_bodies v_ran v_ownKind v_ownNumber v_limit v_changeWas v_changeIs v_shapeRows v_shapeColumns v_row v_column v_below v_face v_worn v_lastBend v_tape v_text v_names v_bends v_high v_to v_pileSize v_planLine v_planWay v_way1 v_bestWay v_order1 v_placeIn v_bodyKind v_trace v_shelf v_many v_items v_carried) (some (.int r)) args s) (F0 m 220 ls [.int s0]) := by
  obtain ⟨hx, hb, hml, hown, hts, hr, hlocks, hK, hSt⟩ := id C0
  intro x13 s0 v_columnsOf v_limit v_row v_column v_face v_worn H locs ls hf hP hD hS hl
  unfold fX9_bendOf_220 at hf
  refine lv_iload hx hb dX9_bendOf_220 (lv_at hl 0 rfl) ?_
  refine lv_icmp_ne (tgt := 229) hx hb dX9_bendOf_222 (by decide) (fun c_31 => ?_) (fun c_31 => ?_)
  · have hf := mm_in hf c_31
    refine lv_iconst (v := 2) hx hb dX9_bendOf_229 (by decide) ?_
    obtain rfl := mm_inj1 hf
    exact mm_iret C0 hP hD hS dX9_bendOf_230
  · have hf := mm_ip hf c_31
    refine lv_iconst (v := 1) hx hb dX9_bendOf_225 (by decide) ?_
    refine lv_goto (tgt := 230) hx hb dX9_bendOf_226 (by decide) ?_
    obtain rfl := mm_inj1 hf
    exact mm_iret C0 hP hD hS dX9_bendOf_230

def fX9_bendOf_198 (N : Nat)  (x1 : Int32) (x12 : Int32) (s0 : Int32) (v_columnsOf : Int32) (v_limit : List Int32) (v_row : List Int32) (v_column : List Int32) (v_face : List Int32) (v_worn : List Int32) : Option (Int32) :=
    mm_ck (mm_inb (((32 : Int32) * x1) + x12) v_face.length) (if (mm_ig v_face (((32 : Int32) * x1) + x12)) = 0 then
    (fX9_bendOf_220 N s0 (1 : Int32) v_columnsOf v_limit v_row v_column v_face v_worn)
    else (fX9_bendOf_220 N s0 (0 : Int32) v_columnsOf v_limit v_row v_column v_face v_worn))

set_option maxHeartbeats 4000000 in
set_option maxRecDepth 100000 in
theorem tX9_bendOf_198 {p : Program} {l : Launch} {e : Env} {s : State} {m : MethodId} {args : Array Value} {below : List Frame} {meth : Method} {c : Code} {D : va_G} {cI cL cS cH : ClassId} {A : Nat → Prop} {d : Nat} {a : Nat → Nat} (hd : 2 ≤ d) (C0 : mm_Cx p s m args meth c RX9 cX9_bendOf 14 (some .int) D (mm_T cI cL cS cH) A) (hA : ∀ q, s.heap.size ≤ q → A q) {v_keptMany : Int32} {v_done : Int32} {v_rowsOf : Int32} {v_folded : Int32} {v_wronged : Int32} {v_tapeMany : Int32} {v_textMany : Int32} {v_base : Int32} {v_at : Int32} {v_ends : Int32} {v_fault : Int32} {v_opened : Int32} {v_bentMany : Int32} {v_bentWrong : Int32} {v_moreWorn : Int32} {v_planned : Int32} {v_allWrong : Int32} {v_allWorn : Int32} {v_z : Int32} {v_wishedField : Int32} {v_isFound : Bool} {v_bestWrong : Int32} {v_bestWorn : Int32} {v_bestMany : Int32} {v_soughtBy : Int32} {v_sought : Int32} {v_soughtAt : Int32} {v_foundMany : Int32} {v_foundOrder : Int32} {v_isKept : Bool} {v_imageRows : Int32} {v_imageColumns : Int32} {v_imageFolded : Int32} {v_imageWronged : Int32} {v_bodies : Int32} {v_ran : Int32} {v_ownKind : Int32} {v_ownNumber : Int32} {v_changeWas : List Int32} {v_changeIs : List Int32} {v_shapeRows : List Int32} {v_shapeColumns : List Int32} {v_below : List Int32} {v_lastBend : List Int32} {v_tape : List Int32} {v_text : List Int32} {v_names : List Int32} {v_bends : List Int32} {v_high : List Int32} {v_to : List Int32} {v_pileSize : List Int32} {v_planLine : List Int32} {v_planWay : List Int32} {v_way1 : List Int32} {v_bestWay : List Int32} {v_order1 : List Int32} {v_placeIn : List Int32} {v_bodyKind : List Int32} {v_trace : List Int32} {v_shelf : List Int32} {v_many : List Int32} {v_items : List Int64} {v_carried : List Int64} {r : Int32} (N : Nat)  : ∀ (x1 : Int32) (x12 : Int32) (s0 : Int32) (v_columnsOf : Int32) (v_limit : List Int32) (v_row : List Int32) (v_column : List Int32) (v_face : List Int32) (v_worn : List Int32) (H : Heap) (locs : List Loc) (ls : Array Slot), fX9_bendOf_198 N x1 x12 s0 v_columnsOf v_limit v_row v_column v_face v_worn = some r → va_P D mm_cl (wd_X9 cI cL cS cH a v_keptMany v_done v_rowsOf v_columnsOf v_folded v_wronged v_tapeMany v_textMany v_base v_at v_ends v_fault v_opened v_bentMany v_bentWrong v_moreWorn v_planned v_allWrong v_allWorn v_z v_wishedField v_isFound v_bestWrong v_bestWorn v_bestMany v_soughtBy v_sought v_soughtAt v_foundMany v_foundOrder v_isKept v_imageRows v_imageColumns v_imageFolded v_imageWronged v_bodies v_ran v_ownKind v_ownNumber v_limit v_changeWas v_changeIs v_shapeRows v_shapeColumns v_row v_column v_below v_face v_worn v_lastBend v_tape v_text v_names v_bends v_high v_to v_pileSize v_planLine v_planWay v_way1 v_bestWay v_order1 v_placeIn v_bodyKind v_trace v_shelf v_many v_items v_carried) H → va_D A (wd_X9 cI cL cS cH a v_keptMany v_done v_rowsOf v_columnsOf v_folded v_wronged v_tapeMany v_textMany v_base v_at v_ends v_fault v_opened v_bentMany v_bentWrong v_moreWorn v_planned v_allWrong v_allWorn v_z v_wishedField v_isFound v_bestWrong v_bestWorn v_bestMany v_soughtBy v_sought v_soughtAt v_foundMany v_foundOrder v_isKept v_imageRows v_imageColumns v_imageFolded v_imageWronged v_bodies v_ran v_ownKind v_ownNumber v_limit v_changeWas v_changeIs v_shapeRows v_shapeColumns v_row v_column v_below v_face v_worn v_lastBend v_tape v_text v_names v_bends v_high v_to v_pileSize v_planLine v_planWay v_way1 v_bestWay v_order1 v_placeIn v_bodyKind v_trace v_shelf v_many v_items v_carried) → va_S A s.heap H locs → lv_has ls 14 [(0, .ref (a 0)), (1, .int x1), (12, .int x12)] → W p l e (mm_rr d) s m args below meth c H locs 0 0 (mm_Z below D A (wd_X9 cI cL cS cH a v_keptMany v_done v_rowsOf v_columnsOf v_folded v_wronged v_tapeMany v_textMany v_base v_at v_ends v_fault v_opened v_bentMany v_bentWrong v_moreWorn v_planned v_allWrong v_allWorn v_z v_wishedField v_isFound v_bestWrong v_bestWorn v_bestMany v_soughtBy v_sought v_soughtAt v_foundMany v_foundOrder v_isKept v_imageRows v_imageColumns v_imageFolded v_imageWronged v_bodies v_ran v_ownKind v_ownNumber v_limit v_changeWas v_changeIs v_shapeRows v_shapeColumns v_row v_column v_below v_face v_worn v_lastBend v_tape v_text v_names v_bends v_high v_to v_pileSize v_planLine v_planWay v_way1 v_bestWay v_order1 v_placeIn v_bodyKind v_trace v_shelf v_many v_items v_carried) (some (.int r)) args s) (F0 m 198 ls [.int s0]) := by
  obtain ⟨hx, hb, hml, hown, hts, hr, hlocks, hK, hSt⟩ := id C0
  intro x1 x12 s0 v_columnsOf v_limit v_row v_column v_face v_worn H locs ls hf hP hD hS hl
  unfold fX9_bendOf_198 at hf
  refine lv_istore (lv' := [(13, .int s0), (0, .ref (a 0)), (1, .int x1), (12, .int x12)]) hx hb dX9_bendOf_198 hl (by decide) rfl (fun ls hl => ?_)
  refine lv_aload_n hx hb dX9_bendOf_200 rfl (lv_at hl 1 rfl) ?_
  refine mm_get C0 hP iw_X9 0 rfl rfl 12 (by decide) fl_X9_34 rfl dX9_bendOf_201 ?_
  refine lv_bipush (v := 32) hx hb dX9_bendOf_204 (by decide) ?_
  refine lv_iload_n hx hb dX9_bendOf_206 rfl (lv_at hl 2 rfl) ?_
  refine lv_imul hx hb dX9_bendOf_207 ?_
  refine lv_iload hx hb dX9_bendOf_208 (lv_at hl 3 rfl) ?_
  refine lv_iadd hx hb dX9_bendOf_210 ?_
  obtain ⟨h_29, hf⟩ := mm_cks hf
  refine mm_iald C0 hP 9 rfl h_29 dX9_bendOf_211 ?_
  refine lv_if_ne (tgt := 219) hx hb dX9_bendOf_212 (by decide) (fun c_30 => ?_) (fun c_30 => ?_)
  · have hf := mm_in hf c_30
    refine lv_iconst (v := 0) hx hb dX9_bendOf_219 (by decide) ?_
    exact tX9_bendOf_220 hd C0 hA N  _ _ _ _ _ _ _ _ H locs ls hf hP hD hS (lv_sub hl [0] rfl)
  · have hf := mm_ip hf c_30
    refine lv_iconst (v := 1) hx hb dX9_bendOf_215 (by decide) ?_
    refine lv_goto (tgt := 220) hx hb dX9_bendOf_216 (by decide) ?_
    exact tX9_bendOf_220 hd C0 hA N  _ _ _ _ _ _ _ _ H locs ls hf hP hD hS (lv_sub hl [0] rfl)

def fX9_bendOf_184 (N : Nat)  (x1 : Int32) (x4 : Int32) (s0 : Int32) (v_columnsOf : Int32) (v_limit : List Int32) (v_row : List Int32) (v_column : List Int32) (v_face : List Int32) (v_worn : List Int32) : Option (Int32) :=
    mm_ck (mm_nz (2 : Int32)) (if (mm_rem x4 (2 : Int32)) = 0 then
    (fX9_bendOf_198 N x1 s0 (1 : Int32) v_columnsOf v_limit v_row v_column v_face v_worn)
    else (fX9_bendOf_198 N x1 s0 (0 : Int32) v_columnsOf v_limit v_row v_column v_face v_worn))

set_option maxHeartbeats 4000000 in
set_option maxRecDepth 100000 in
theorem tX9_bendOf_184 {p : Program} {l : Launch} {e : Env} {s : State} {m : MethodId} {args : Array Value} {below : List Frame} {meth : Method} {c : Code} {D : va_G} {cI cL cS cH : ClassId} {A : Nat → Prop} {d : Nat} {a : Nat → Nat} (hd : 2 ≤ d) (C0 : mm_Cx p s m args meth c RX9 cX9_bendOf 14 (some .int) D (mm_T cI cL cS cH) A) (hA : ∀ q, s.heap.size ≤ q → A q) {v_keptMany : Int32} {v_done : Int32} {v_rowsOf : Int32} {v_folded : Int32} {v_wronged : Int32} {v_tapeMany : Int32} {v_textMany : Int32} {v_base : Int32} {v_at : Int32} {v_ends : Int32} {v_fault : Int32} {v_opened : Int32} {v_bentMany : Int32} {v_bentWrong : Int32} {v_moreWorn : Int32} {v_planned : Int32} {v_allWrong : Int32} {v_allWorn : Int32} {v_z : Int32} {v_wishedField : Int32} {v_isFound : Bool} {v_bestWrong : Int32} {v_bestWorn : Int32} {v_bestMany : Int32} {v_soughtBy : Int32} {v_sought : Int32} {v_soughtAt : Int32} {v_foundMany : Int32} {v_foundOrder : Int32} {v_isKept : Bool} {v_imageRows : Int32} {v_imageColumns : Int32} {v_imageFolded : Int32} {v_imageWronged : Int32} {v_bodies : Int32} {v_ran : Int32} {v_ownKind : Int32} {v_ownNumber : Int32} {v_changeWas : List Int32} {v_changeIs : List Int32} {v_shapeRows : List Int32} {v_shapeColumns : List Int32} {v_below : List Int32} {v_lastBend : List Int32} {v_tape : List Int32} {v_text : List Int32} {v_names : List Int32} {v_bends : List Int32} {v_high : List Int32} {v_to : List Int32} {v_pileSize : List Int32} {v_planLine : List Int32} {v_planWay : List Int32} {v_way1 : List Int32} {v_bestWay : List Int32} {v_order1 : List Int32} {v_placeIn : List Int32} {v_bodyKind : List Int32} {v_trace : List Int32} {v_shelf : List Int32} {v_many : List Int32} {v_items : List Int64} {v_carried : List Int64} {r : Int32} (N : Nat)  : ∀ (x1 : Int32) (x4 : Int32) (s0 : Int32) (v_columnsOf : Int32) (v_limit : List Int32) (v_row : List Int32) (v_column : List Int32) (v_face : List Int32) (v_worn : List Int32) (H : Heap) (locs : List Loc) (ls : Array Slot), fX9_bendOf_184 N x1 x4 s0 v_columnsOf v_limit v_row v_column v_face v_worn = some r → va_P D mm_cl (wd_X9 cI cL cS cH a v_keptMany v_done v_rowsOf v_columnsOf v_folded v_wronged v_tapeMany v_textMany v_base v_at v_ends v_fault v_opened v_bentMany v_bentWrong v_moreWorn v_planned v_allWrong v_allWorn v_z v_wishedField v_isFound v_bestWrong v_bestWorn v_bestMany v_soughtBy v_sought v_soughtAt v_foundMany v_foundOrder v_isKept v_imageRows v_imageColumns v_imageFolded v_imageWronged v_bodies v_ran v_ownKind v_ownNumber v_limit v_changeWas v_changeIs v_shapeRows v_shapeColumns v_row v_column v_below v_face v_worn v_lastBend v_tape v_text v_names v_bends v_high v_to v_pileSize v_planLine v_planWay v_way1 v_bestWay v_order1 v_placeIn v_bodyKind v_trace v_shelf v_many v_items v_carried) H → va_D A (wd_X9 cI cL cS cH a v_keptMany v_done v_rowsOf v_columnsOf v_folded v_wronged v_tapeMany v_textMany v_base v_at v_ends v_fault v_opened v_bentMany v_bentWrong v_moreWorn v_planned v_allWrong v_allWorn v_z v_wishedField v_isFound v_bestWrong v_bestWorn v_bestMany v_soughtBy v_sought v_soughtAt v_foundMany v_foundOrder v_isKept v_imageRows v_imageColumns v_imageFolded v_imageWronged v_bodies v_ran v_ownKind v_ownNumber v_limit v_changeWas v_changeIs v_shapeRows v_shapeColumns v_row v_column v_below v_face v_worn v_lastBend v_tape v_text v_names v_bends v_high v_to v_pileSize v_planLine v_planWay v_way1 v_bestWay v_order1 v_placeIn v_bodyKind v_trace v_shelf v_many v_items v_carried) → va_S A s.heap H locs → lv_has ls 14 [(0, .ref (a 0)), (1, .int x1), (4, .int x4)] → W p l e (mm_rr d) s m args below meth c H locs 0 0 (mm_Z below D A (wd_X9 cI cL cS cH a v_keptMany v_done v_rowsOf v_columnsOf v_folded v_wronged v_tapeMany v_textMany v_base v_at v_ends v_fault v_opened v_bentMany v_bentWrong v_moreWorn v_planned v_allWrong v_allWorn v_z v_wishedField v_isFound v_bestWrong v_bestWorn v_bestMany v_soughtBy v_sought v_soughtAt v_foundMany v_foundOrder v_isKept v_imageRows v_imageColumns v_imageFolded v_imageWronged v_bodies v_ran v_ownKind v_ownNumber v_limit v_changeWas v_changeIs v_shapeRows v_shapeColumns v_row v_column v_below v_face v_worn v_lastBend v_tape v_text v_names v_bends v_high v_to v_pileSize v_planLine v_planWay v_way1 v_bestWay v_order1 v_placeIn v_bodyKind v_trace v_shelf v_many v_items v_carried) (some (.int r)) args s) (F0 m 184 ls [.int s0]) := by
  obtain ⟨hx, hb, hml, hown, hts, hr, hlocks, hK, hSt⟩ := id C0
  intro x1 x4 s0 v_columnsOf v_limit v_row v_column v_face v_worn H locs ls hf hP hD hS hl
  unfold fX9_bendOf_184 at hf
  refine lv_istore (lv' := [(12, .int s0), (0, .ref (a 0)), (1, .int x1), (4, .int x4)]) hx hb dX9_bendOf_184 hl (by decide) rfl (fun ls hl => ?_)
  refine lv_iload hx hb dX9_bendOf_186 (lv_at hl 3 rfl) ?_
  refine lv_iconst (v := 2) hx hb dX9_bendOf_188 (by decide) ?_
  obtain ⟨h_27, hf⟩ := mm_cks hf
  refine lv_irem hx hb dX9_bendOf_189 (mm_nzs h_27) ?_
  refine lv_if_ne (tgt := 197) hx hb dX9_bendOf_190 (by decide) (fun c_28 => ?_) (fun c_28 => ?_)
  · have hf := mm_in hf c_28
    refine lv_iconst (v := 0) hx hb dX9_bendOf_197 (by decide) ?_
    exact tX9_bendOf_198 hd C0 hA N  _ _ _ _ _ _ _ _ _ H locs ls hf hP hD hS (lv_sub hl [1, 2, 0] rfl)
  · have hf := mm_ip hf c_28
    refine lv_iconst (v := 1) hx hb dX9_bendOf_193 (by decide) ?_
    refine lv_goto (tgt := 198) hx hb dX9_bendOf_194 (by decide) ?_
    exact tX9_bendOf_198 hd C0 hA N  _ _ _ _ _ _ _ _ _ H locs ls hf hP hD hS (lv_sub hl [1, 2, 0] rfl)

def fX9_bendOf_172 (N : Nat)  (x1 : Int32) (x4 : Int32) (x5 : Int32) (x6 : Int32) (x11 : Int32) (s0 : Int32) (v_columnsOf : Int32) (v_limit : List Int32) (v_row : List Int32) (v_column : List Int32) (v_face : List Int32) (v_worn : List Int32) : Option (Int32) :=
    if s0 = x11 then
    (fX9_bendOf_184 N x1 x4 x5 v_columnsOf v_limit v_row v_column v_face v_worn)
    else (fX9_bendOf_184 N x1 x4 x6 v_columnsOf v_limit v_row v_column v_face v_worn)

set_option maxHeartbeats 4000000 in
set_option maxRecDepth 100000 in
theorem tX9_bendOf_172 {p : Program} {l : Launch} {e : Env} {s : State} {m : MethodId} {args : Array Value} {below : List Frame} {meth : Method} {c : Code} {D : va_G} {cI cL cS cH : ClassId} {A : Nat → Prop} {d : Nat} {a : Nat → Nat} (hd : 2 ≤ d) (C0 : mm_Cx p s m args meth c RX9 cX9_bendOf 14 (some .int) D (mm_T cI cL cS cH) A) (hA : ∀ q, s.heap.size ≤ q → A q) {v_keptMany : Int32} {v_done : Int32} {v_rowsOf : Int32} {v_folded : Int32} {v_wronged : Int32} {v_tapeMany : Int32} {v_textMany : Int32} {v_base : Int32} {v_at : Int32} {v_ends : Int32} {v_fault : Int32} {v_opened : Int32} {v_bentMany : Int32} {v_bentWrong : Int32} {v_moreWorn : Int32} {v_planned : Int32} {v_allWrong : Int32} {v_allWorn : Int32} {v_z : Int32} {v_wishedField : Int32} {v_isFound : Bool} {v_bestWrong : Int32} {v_bestWorn : Int32} {v_bestMany : Int32} {v_soughtBy : Int32} {v_sought : Int32} {v_soughtAt : Int32} {v_foundMany : Int32} {v_foundOrder : Int32} {v_isKept : Bool} {v_imageRows : Int32} {v_imageColumns : Int32} {v_imageFolded : Int32} {v_imageWronged : Int32} {v_bodies : Int32} {v_ran : Int32} {v_ownKind : Int32} {v_ownNumber : Int32} {v_changeWas : List Int32} {v_changeIs : List Int32} {v_shapeRows : List Int32} {v_shapeColumns : List Int32} {v_below : List Int32} {v_lastBend : List Int32} {v_tape : List Int32} {v_text : List Int32} {v_names : List Int32} {v_bends : List Int32} {v_high : List Int32} {v_to : List Int32} {v_pileSize : List Int32} {v_planLine : List Int32} {v_planWay : List Int32} {v_way1 : List Int32} {v_bestWay : List Int32} {v_order1 : List Int32} {v_placeIn : List Int32} {v_bodyKind : List Int32} {v_trace : List Int32} {v_shelf : List Int32} {v_many : List Int32} {v_items : List Int64} {v_carried : List Int64} {r : Int32} (N : Nat)  : ∀ (x1 : Int32) (x4 : Int32) (x5 : Int32) (x6 : Int32) (x11 : Int32) (s0 : Int32) (v_columnsOf : Int32) (v_limit : List Int32) (v_row : List Int32) (v_column : List Int32) (v_face : List Int32) (v_worn : List Int32) (H : Heap) (locs : List Loc) (ls : Array Slot), fX9_bendOf_172 N x1 x4 x5 x6 x11 s0 v_columnsOf v_limit v_row v_column v_face v_worn = some r → va_P D mm_cl (wd_X9 cI cL cS cH a v_keptMany v_done v_rowsOf v_columnsOf v_folded v_wronged v_tapeMany v_textMany v_base v_at v_ends v_fault v_opened v_bentMany v_bentWrong v_moreWorn v_planned v_allWrong v_allWorn v_z v_wishedField v_isFound v_bestWrong v_bestWorn v_bestMany v_soughtBy v_sought v_soughtAt v_foundMany v_foundOrder v_isKept v_imageRows v_imageColumns v_imageFolded v_imageWronged v_bodies v_ran v_ownKind v_ownNumber v_limit v_changeWas v_changeIs v_shapeRows v_shapeColumns v_row v_column v_below v_face v_worn v_lastBend v_tape v_text v_names v_bends v_high v_to v_pileSize v_planLine v_planWay v_way1 v_bestWay v_order1 v_placeIn v_bodyKind v_trace v_shelf v_many v_items v_carried) H → va_D A (wd_X9 cI cL cS cH a v_keptMany v_done v_rowsOf v_columnsOf v_folded v_wronged v_tapeMany v_textMany v_base v_at v_ends v_fault v_opened v_bentMany v_bentWrong v_moreWorn v_planned v_allWrong v_allWorn v_z v_wishedField v_isFound v_bestWrong v_bestWorn v_bestMany v_soughtBy v_sought v_soughtAt v_foundMany v_foundOrder v_isKept v_imageRows v_imageColumns v_imageFolded v_imageWronged v_bodies v_ran v_ownKind v_ownNumber v_limit v_changeWas v_changeIs v_shapeRows v_shapeColumns v_row v_column v_below v_face v_worn v_lastBend v_tape v_text v_names v_bends v_high v_to v_pileSize v_planLine v_planWay v_way1 v_bestWay v_order1 v_placeIn v_bodyKind v_trace v_shelf v_many v_items v_carried) → va_S A s.heap H locs → lv_has ls 14 [(0, .ref (a 0)), (1, .int x1), (4, .int x4), (5, .int x5), (6, .int x6), (11, .int x11)] → W p l e (mm_rr d) s m args below meth c H locs 0 0 (mm_Z below D A (wd_X9 cI cL cS cH a v_keptMany v_done v_rowsOf v_columnsOf v_folded v_wronged v_tapeMany v_textMany v_base v_at v_ends v_fault v_opened v_bentMany v_bentWrong v_moreWorn v_planned v_allWrong v_allWorn v_z v_wishedField v_isFound v_bestWrong v_bestWorn v_bestMany v_soughtBy v_sought v_soughtAt v_foundMany v_foundOrder v_isKept v_imageRows v_imageColumns v_imageFolded v_imageWronged v_bodies v_ran v_ownKind v_ownNumber v_limit v_changeWas v_changeIs v_shapeRows v_shapeColumns v_row v_column v_below v_face v_worn v_lastBend v_tape v_text v_names v_bends v_high v_to v_pileSize v_planLine v_planWay v_way1 v_bestWay v_order1 v_placeIn v_bodyKind v_trace v_shelf v_many v_items v_carried) (some (.int r)) args s) (F0 m 172 ls [.int s0]) := by
  obtain ⟨hx, hb, hml, hown, hts, hr, hlocks, hK, hSt⟩ := id C0
  intro x1 x4 x5 x6 x11 s0 v_columnsOf v_limit v_row v_column v_face v_worn H locs ls hf hP hD hS hl
  unfold fX9_bendOf_172 at hf
  refine lv_iload hx hb dX9_bendOf_172 (lv_at hl 5 rfl) ?_
  refine lv_icmp_ne (tgt := 182) hx hb dX9_bendOf_174 (by decide) (fun c_26 => ?_) (fun c_26 => ?_)
  · have hf := mm_in hf c_26
    refine lv_iload hx hb dX9_bendOf_182 (lv_at hl 4 rfl) ?_
    exact tX9_bendOf_184 hd C0 hA N  _ _ _ _ _ _ _ _ _ H locs ls hf hP hD hS (lv_sub hl [0, 1, 2] rfl)
  · have hf := mm_ip hf c_26
    refine lv_iload hx hb dX9_bendOf_177 (lv_at hl 3 rfl) ?_
    refine lv_goto (tgt := 184) hx hb dX9_bendOf_179 (by decide) ?_
    exact tX9_bendOf_184 hd C0 hA N  _ _ _ _ _ _ _ _ _ H locs ls hf hP hD hS (lv_sub hl [0, 1, 2] rfl)

def fX9_bendOf_159 (N : Nat)  (x1 : Int32) (x3 : Int32) (x4 : Int32) (x5 : Int32) (x6 : Int32) (x8 : Int32) (s0 : Int32) (v_columnsOf : Int32) (v_limit : List Int32) (v_row : List Int32) (v_column : List Int32) (v_face : List Int32) (v_worn : List Int32) : Option (Int32) :=
    if x3 ≤ x8 then
    (fX9_bendOf_172 N x1 x4 x5 x6 s0 (0 : Int32) v_columnsOf v_limit v_row v_column v_face v_worn)
    else (fX9_bendOf_172 N x1 x4 x5 x6 s0 (1 : Int32) v_columnsOf v_limit v_row v_column v_face v_worn)

set_option maxHeartbeats 4000000 in
set_option maxRecDepth 100000 in
theorem tX9_bendOf_159 {p : Program} {l : Launch} {e : Env} {s : State} {m : MethodId} {args : Array Value} {below : List Frame} {meth : Method} {c : Code} {D : va_G} {cI cL cS cH : ClassId} {A : Nat → Prop} {d : Nat} {a : Nat → Nat} (hd : 2 ≤ d) (C0 : mm_Cx p s m args meth c RX9 cX9_bendOf 14 (some .int) D (mm_T cI cL cS cH) A) (hA : ∀ q, s.heap.size ≤ q → A q) {v_keptMany : Int32} {v_done : Int32} {v_rowsOf : Int32} {v_folded : Int32} {v_wronged : Int32} {v_tapeMany : Int32} {v_textMany : Int32} {v_base : Int32} {v_at : Int32} {v_ends : Int32} {v_fault : Int32} {v_opened : Int32} {v_bentMany : Int32} {v_bentWrong : Int32} {v_moreWorn : Int32} {v_planned : Int32} {v_allWrong : Int32} {v_allWorn : Int32} {v_z : Int32} {v_wishedField : Int32} {v_isFound : Bool} {v_bestWrong : Int32} {v_bestWorn : Int32} {v_bestMany : Int32} {v_soughtBy : Int32} {v_sought : Int32} {v_soughtAt : Int32} {v_foundMany : Int32} {v_foundOrder : Int32} {v_isKept : Bool} {v_imageRows : Int32} {v_imageColumns : Int32} {v_imageFolded : Int32} {v_imageWronged : Int32} {v_bodies : Int32} {v_ran : Int32} {v_ownKind : Int32} {v_ownNumber : Int32} {v_changeWas : List Int32} {v_changeIs : List Int32} {v_shapeRows : List Int32} {v_shapeColumns : List Int32} {v_below : List Int32} {v_lastBend : List Int32} {v_tape : List Int32} {v_text : List Int32} {v_names : List Int32} {v_bends : List Int32} {v_high : List Int32} {v_to : List Int32} {v_pileSize : List Int32} {v_planLine : List Int32} {v_planWay : List Int32} {v_way1 : List Int32} {v_bestWay : List Int32} {v_order1 : List Int32} {v_placeIn : List Int32} {v_bodyKind : List Int32} {v_trace : List Int32} {v_shelf : List Int32} {v_many : List Int32} {v_items : List Int64} {v_carried : List Int64} {r : Int32} (N : Nat)  : ∀ (x1 : Int32) (x3 : Int32) (x4 : Int32) (x5 : Int32) (x6 : Int32) (x8 : Int32) (s0 : Int32) (v_columnsOf : Int32) (v_limit : List Int32) (v_row : List Int32) (v_column : List Int32) (v_face : List Int32) (v_worn : List Int32) (H : Heap) (locs : List Loc) (ls : Array Slot), fX9_bendOf_159 N x1 x3 x4 x5 x6 x8 s0 v_columnsOf v_limit v_row v_column v_face v_worn = some r → va_P D mm_cl (wd_X9 cI cL cS cH a v_keptMany v_done v_rowsOf v_columnsOf v_folded v_wronged v_tapeMany v_textMany v_base v_at v_ends v_fault v_opened v_bentMany v_bentWrong v_moreWorn v_planned v_allWrong v_allWorn v_z v_wishedField v_isFound v_bestWrong v_bestWorn v_bestMany v_soughtBy v_sought v_soughtAt v_foundMany v_foundOrder v_isKept v_imageRows v_imageColumns v_imageFolded v_imageWronged v_bodies v_ran v_ownKind v_ownNumber v_limit v_changeWas v_changeIs v_shapeRows v_shapeColumns v_row v_column v_below v_face v_worn v_lastBend v_tape v_text v_names v_bends v_high v_to v_pileSize v_planLine v_planWay v_way1 v_bestWay v_order1 v_placeIn v_bodyKind v_trace v_shelf v_many v_items v_carried) H → va_D A (wd_X9 cI cL cS cH a v_keptMany v_done v_rowsOf v_columnsOf v_folded v_wronged v_tapeMany v_textMany v_base v_at v_ends v_fault v_opened v_bentMany v_bentWrong v_moreWorn v_planned v_allWrong v_allWorn v_z v_wishedField v_isFound v_bestWrong v_bestWorn v_bestMany v_soughtBy v_sought v_soughtAt v_foundMany v_foundOrder v_isKept v_imageRows v_imageColumns v_imageFolded v_imageWronged v_bodies v_ran v_ownKind v_ownNumber v_limit v_changeWas v_changeIs v_shapeRows v_shapeColumns v_row v_column v_below v_face v_worn v_lastBend v_tape v_text v_names v_bends v_high v_to v_pileSize v_planLine v_planWay v_way1 v_bestWay v_order1 v_placeIn v_bodyKind v_trace v_shelf v_many v_items v_carried) → va_S A s.heap H locs → lv_has ls 14 [(0, .ref (a 0)), (1, .int x1), (3, .int x3), (4, .int x4), (5, .int x5), (6, .int x6), (8, .int x8)] → W p l e (mm_rr d) s m args below meth c H locs 0 0 (mm_Z below D A (wd_X9 cI cL cS cH a v_keptMany v_done v_rowsOf v_columnsOf v_folded v_wronged v_tapeMany v_textMany v_base v_at v_ends v_fault v_opened v_bentMany v_bentWrong v_moreWorn v_planned v_allWrong v_allWorn v_z v_wishedField v_isFound v_bestWrong v_bestWorn v_bestMany v_soughtBy v_sought v_soughtAt v_foundMany v_foundOrder v_isKept v_imageRows v_imageColumns v_imageFolded v_imageWronged v_bodies v_ran v_ownKind v_ownNumber v_limit v_changeWas v_changeIs v_shapeRows v_shapeColumns v_row v_column v_below v_face v_worn v_lastBend v_tape v_text v_names v_bends v_high v_to v_pileSize v_planLine v_planWay v_way1 v_bestWay v_order1 v_placeIn v_bodyKind v_trace v_shelf v_many v_items v_carried) (some (.int r)) args s) (F0 m 159 ls [.int s0]) := by
  obtain ⟨hx, hb, hml, hown, hts, hr, hlocks, hK, hSt⟩ := id C0
  intro x1 x3 x4 x5 x6 x8 s0 v_columnsOf v_limit v_row v_column v_face v_worn H locs ls hf hP hD hS hl
  unfold fX9_bendOf_159 at hf
  refine lv_istore (lv' := [(11, .int s0), (0, .ref (a 0)), (1, .int x1), (3, .int x3), (4, .int x4), (5, .int x5), (6, .int x6), (8, .int x8)]) hx hb dX9_bendOf_159 hl (by decide) rfl (fun ls hl => ?_)
  refine lv_iload hx hb dX9_bendOf_161 (lv_at hl 7 rfl) ?_
  refine lv_iload_n hx hb dX9_bendOf_163 rfl (lv_at hl 3 rfl) ?_
  refine lv_icmp_ge (tgt := 171) hx hb dX9_bendOf_164 (by decide) (fun c_25 => ?_) (fun c_25 => ?_)
  · have hf := mm_ip hf c_25
    refine lv_iconst (v := 0) hx hb dX9_bendOf_171 (by decide) ?_
    exact tX9_bendOf_172 hd C0 hA N  _ _ _ _ _ _ _ _ _ _ _ _ H locs ls hf hP hD hS (lv_sub hl [1, 2, 4, 5, 6, 0] rfl)
  · have hf := mm_in hf c_25
    refine lv_iconst (v := 1) hx hb dX9_bendOf_167 (by decide) ?_
    refine lv_goto (tgt := 172) hx hb dX9_bendOf_168 (by decide) ?_
    exact tX9_bendOf_172 hd C0 hA N  _ _ _ _ _ _ _ _ _ _ _ _ H locs ls hf hP hD hS (lv_sub hl [1, 2, 4, 5, 6, 0] rfl)

def fX9_bendOf_118 (N : Nat)  (x1 : Int32) (x2 : Int32) (x3 : Int32) (x4 : Int32) (x5 : Int32) (x6 : Int32) (x8 : Int32) (s0 : Int32) (s1 : Int32) (s2 : Int32) (s4 : Int32) (v_columnsOf : Int32) (v_limit : List Int32) (v_row : List Int32) (v_column : List Int32) (v_face : List Int32) (v_worn : List Int32) : Option (Int32) :=
    mm_bd1 (fX9_placeOf N s2 s1 s0 v_row v_column) (fun (r_17 : Int32) =>
    if s4 = r_17 then
    (mm_ck (mm_inb (((64 : Int32) * x1) + x2) v_worn.length) (mm_ck (mm_inb (0 : Int32) v_limit.length) (if (mm_ig v_worn (((64 : Int32) * x1) + x2)) < (mm_ig v_limit (0 : Int32)) then
    (mm_ck (mm_nz (4 : Int32)) (if (2 : Int32) ≤ (mm_rem x4 (4 : Int32)) then
    (fX9_bendOf_159 N x1 x3 x4 x5 x6 x8 (0 : Int32) v_columnsOf v_limit v_row v_column v_face v_worn)
    else (fX9_bendOf_159 N x1 x3 x4 x5 x6 x8 (1 : Int32) v_columnsOf v_limit v_row v_column v_face v_worn)))
    else (some ((0 : Int32))))))
    else (some ((0 : Int32))))

set_option maxHeartbeats 4000000 in
set_option maxRecDepth 100000 in
theorem tX9_bendOf_118 {p : Program} {l : Launch} {e : Env} {s : State} {m : MethodId} {args : Array Value} {below : List Frame} {meth : Method} {c : Code} {D : va_G} {cI cL cS cH : ClassId} {A : Nat → Prop} {d : Nat} {a : Nat → Nat} (hd : 2 ≤ d) (C0 : mm_Cx p s m args meth c RX9 cX9_bendOf 14 (some .int) D (mm_T cI cL cS cH) A) (hA : ∀ q, s.heap.size ≤ q → A q) {v_keptMany : Int32} {v_done : Int32} {v_rowsOf : Int32} {v_folded : Int32} {v_wronged : Int32} {v_tapeMany : Int32} {v_textMany : Int32} {v_base : Int32} {v_at : Int32} {v_ends : Int32} {v_fault : Int32} {v_opened : Int32} {v_bentMany : Int32} {v_bentWrong : Int32} {v_moreWorn : Int32} {v_planned : Int32} {v_allWrong : Int32} {v_allWorn : Int32} {v_z : Int32} {v_wishedField : Int32} {v_isFound : Bool} {v_bestWrong : Int32} {v_bestWorn : Int32} {v_bestMany : Int32} {v_soughtBy : Int32} {v_sought : Int32} {v_soughtAt : Int32} {v_foundMany : Int32} {v_foundOrder : Int32} {v_isKept : Bool} {v_imageRows : Int32} {v_imageColumns : Int32} {v_imageFolded : Int32} {v_imageWronged : Int32} {v_bodies : Int32} {v_ran : Int32} {v_ownKind : Int32} {v_ownNumber : Int32} {v_changeWas : List Int32} {v_changeIs : List Int32} {v_shapeRows : List Int32} {v_shapeColumns : List Int32} {v_below : List Int32} {v_lastBend : List Int32} {v_tape : List Int32} {v_text : List Int32} {v_names : List Int32} {v_bends : List Int32} {v_high : List Int32} {v_to : List Int32} {v_pileSize : List Int32} {v_planLine : List Int32} {v_planWay : List Int32} {v_way1 : List Int32} {v_bestWay : List Int32} {v_order1 : List Int32} {v_placeIn : List Int32} {v_bodyKind : List Int32} {v_trace : List Int32} {v_shelf : List Int32} {v_many : List Int32} {v_items : List Int64} {v_carried : List Int64} {r : Int32} (N : Nat)  : ∀ (x1 : Int32) (x2 : Int32) (x3 : Int32) (x4 : Int32) (x5 : Int32) (x6 : Int32) (x8 : Int32) (s0 : Int32) (s1 : Int32) (s2 : Int32) (s4 : Int32) (v_columnsOf : Int32) (v_limit : List Int32) (v_row : List Int32) (v_column : List Int32) (v_face : List Int32) (v_worn : List Int32) (H : Heap) (locs : List Loc) (ls : Array Slot), fX9_bendOf_118 N x1 x2 x3 x4 x5 x6 x8 s0 s1 s2 s4 v_columnsOf v_limit v_row v_column v_face v_worn = some r → va_P D mm_cl (wd_X9 cI cL cS cH a v_keptMany v_done v_rowsOf v_columnsOf v_folded v_wronged v_tapeMany v_textMany v_base v_at v_ends v_fault v_opened v_bentMany v_bentWrong v_moreWorn v_planned v_allWrong v_allWorn v_z v_wishedField v_isFound v_bestWrong v_bestWorn v_bestMany v_soughtBy v_sought v_soughtAt v_foundMany v_foundOrder v_isKept v_imageRows v_imageColumns v_imageFolded v_imageWronged v_bodies v_ran v_ownKind v_ownNumber v_limit v_changeWas v_changeIs v_shapeRows v_shapeColumns v_row v_column v_below v_face v_worn v_lastBend v_tape v_text v_names v_bends v_high v_to v_pileSize v_planLine v_planWay v_way1 v_bestWay v_order1 v_placeIn v_bodyKind v_trace v_shelf v_many v_items v_carried) H → va_D A (wd_X9 cI cL cS cH a v_keptMany v_done v_rowsOf v_columnsOf v_folded v_wronged v_tapeMany v_textMany v_base v_at v_ends v_fault v_opened v_bentMany v_bentWrong v_moreWorn v_planned v_allWrong v_allWorn v_z v_wishedField v_isFound v_bestWrong v_bestWorn v_bestMany v_soughtBy v_sought v_soughtAt v_foundMany v_foundOrder v_isKept v_imageRows v_imageColumns v_imageFolded v_imageWronged v_bodies v_ran v_ownKind v_ownNumber v_limit v_changeWas v_changeIs v_shapeRows v_shapeColumns v_row v_column v_below v_face v_worn v_lastBend v_tape v_text v_names v_bends v_high v_to v_pileSize v_planLine v_planWay v_way1 v_bestWay v_order1 v_placeIn v_bodyKind v_trace v_shelf v_many v_items v_carried) → va_S A s.heap H locs → lv_has ls 14 [(0, .ref (a 0)), (1, .int x1), (2, .int x2), (3, .int x3), (4, .int x4), (5, .int x5), (6, .int x6), (8, .int x8)] → W p l e (mm_rr d) s m args below meth c H locs 0 0 (mm_Z below D A (wd_X9 cI cL cS cH a v_keptMany v_done v_rowsOf v_columnsOf v_folded v_wronged v_tapeMany v_textMany v_base v_at v_ends v_fault v_opened v_bentMany v_bentWrong v_moreWorn v_planned v_allWrong v_allWorn v_z v_wishedField v_isFound v_bestWrong v_bestWorn v_bestMany v_soughtBy v_sought v_soughtAt v_foundMany v_foundOrder v_isKept v_imageRows v_imageColumns v_imageFolded v_imageWronged v_bodies v_ran v_ownKind v_ownNumber v_limit v_changeWas v_changeIs v_shapeRows v_shapeColumns v_row v_column v_below v_face v_worn v_lastBend v_tape v_text v_names v_bends v_high v_to v_pileSize v_planLine v_planWay v_way1 v_bestWay v_order1 v_placeIn v_bodyKind v_trace v_shelf v_many v_items v_carried) (some (.int r)) args s) (F0 m 118 ls [.int s0, .int s1, .int s2, .ref (a 0), .int s4]) := by
  obtain ⟨hx, hb, hml, hown, hts, hr, hlocks, hK, hSt⟩ := id C0
  intro x1 x2 x3 x4 x5 x6 x8 s0 s1 s2 s4 v_columnsOf v_limit v_row v_column v_face v_worn H locs ls hf hP hD hS hl
  unfold fX9_bendOf_118 at hf
  obtain ⟨r_17, hc_18, hf⟩ := mm_bd1s hf
  refine mm_callVF (q0 := 0) (ci := 9) (rest := [.int s4]) C0 lk_X9_204 (ctX9_placeOf (a := a) (d := d - 1) (by omega) hc_18) (by omega) rfl hl.1 rfl (mm_cat rfl) dX9_bendOf_118 hP hD hA hS rfl rfl (fun H locs hP hD hS => ?_)
  refine W.eq (g2 := F0 m 121 ls [.int r_17, .int s4]) rfl ?_
  refine lv_icmp_ne (tgt := 144) hx hb dX9_bendOf_121 (by decide) (fun c_19 => ?_) (fun c_19 => ?_)
  · have hf := mm_in hf c_19
    refine lv_iconst (v := 0) hx hb dX9_bendOf_144 (by decide) ?_
    obtain rfl := mm_inj1 hf
    exact mm_iret C0 hP hD hS dX9_bendOf_145
  · have hf := mm_ip hf c_19
    refine lv_aload_n hx hb dX9_bendOf_124 rfl (lv_at hl 0 rfl) ?_
    refine mm_get C0 hP iw_X9 0 rfl rfl 13 (by decide) fl_X9_37 rfl dX9_bendOf_125 ?_
    refine lv_bipush (v := 64) hx hb dX9_bendOf_128 (by decide) ?_
    refine lv_iload_n hx hb dX9_bendOf_130 rfl (lv_at hl 1 rfl) ?_
    refine lv_imul hx hb dX9_bendOf_131 ?_
    refine lv_iload_n hx hb dX9_bendOf_132 rfl (lv_at hl 2 rfl) ?_
    refine lv_iadd hx hb dX9_bendOf_133 ?_
    obtain ⟨h_20, hf⟩ := mm_cks hf
    refine mm_iald C0 hP 10 rfl h_20 dX9_bendOf_134 ?_
    refine lv_aload_n hx hb dX9_bendOf_135 rfl (lv_at hl 0 rfl) ?_
    refine mm_get C0 hP iw_X9 0 rfl rfl 0 (by decide) fl_X9_7 rfl dX9_bendOf_136 ?_
    refine lv_iconst (v := 0) hx hb dX9_bendOf_139 (by decide) ?_
    obtain ⟨h_21, hf⟩ := mm_cks hf
    refine mm_iald C0 hP 1 rfl h_21 dX9_bendOf_140 ?_
    refine lv_icmp_lt (tgt := 146) hx hb dX9_bendOf_141 (by decide) (fun c_22 => ?_) (fun c_22 => ?_)
    · have hf := mm_ip hf c_22
      refine lv_iload hx hb dX9_bendOf_146 (lv_at hl 4 rfl) ?_
      refine lv_iconst (v := 4) hx hb dX9_bendOf_148 (by decide) ?_
      obtain ⟨h_23, hf⟩ := mm_cks hf
      refine lv_irem hx hb dX9_bendOf_149 (mm_nzs h_23) ?_
      refine lv_iconst (v := 2) hx hb dX9_bendOf_150 (by decide) ?_
      refine lv_icmp_ge (tgt := 158) hx hb dX9_bendOf_151 (by decide) (fun c_24 => ?_) (fun c_24 => ?_)
      · have hf := mm_ip hf c_24
        refine lv_iconst (v := 0) hx hb dX9_bendOf_158 (by decide) ?_
        exact tX9_bendOf_159 hd C0 hA N  _ _ _ _ _ _ _ _ _ _ _ _ _ H locs ls hf hP hD hS (lv_sub hl [0, 1, 3, 4, 5, 6, 7] rfl)
      · have hf := mm_in hf c_24
        refine lv_iconst (v := 1) hx hb dX9_bendOf_154 (by decide) ?_
        refine lv_goto (tgt := 159) hx hb dX9_bendOf_155 (by decide) ?_
        exact tX9_bendOf_159 hd C0 hA N  _ _ _ _ _ _ _ _ _ _ _ _ _ H locs ls hf hP hD hS (lv_sub hl [0, 1, 3, 4, 5, 6, 7] rfl)
    · have hf := mm_in hf c_22
      refine lv_iconst (v := 0) hx hb dX9_bendOf_144 (by decide) ?_
      obtain rfl := mm_inj1 hf
      exact mm_iret C0 hP hD hS dX9_bendOf_145

def fX9_bendOf_101 (N : Nat)  (x1 : Int32) (x2 : Int32) (x3 : Int32) (x4 : Int32) (x5 : Int32) (x6 : Int32) (x7 : Int32) (x8 : Int32) (s0 : Int32) (s1 : Int32) (s2 : Int32) (v_columnsOf : Int32) (v_limit : List Int32) (v_row : List Int32) (v_column : List Int32) (v_face : List Int32) (v_worn : List Int32) : Option (Int32) :=
    mm_bd1 (fX9_placeOf N s2 s1 s0 v_row v_column) (fun (r_14 : Int32) =>
    if x7 = 0 then
    (fX9_bendOf_118 N x1 x2 x3 x4 x5 x6 x8 (1 : Int32) x6 x1 r_14 v_columnsOf v_limit v_row v_column v_face v_worn)
    else (fX9_bendOf_118 N x1 x2 x3 x4 x5 x6 x8 (0 : Int32) x6 x1 r_14 v_columnsOf v_limit v_row v_column v_face v_worn))

set_option maxHeartbeats 4000000 in
set_option maxRecDepth 100000 in
theorem tX9_bendOf_101 {p : Program} {l : Launch} {e : Env} {s : State} {m : MethodId} {args : Array Value} {below : List Frame} {meth : Method} {c : Code} {D : va_G} {cI cL cS cH : ClassId} {A : Nat → Prop} {d : Nat} {a : Nat → Nat} (hd : 2 ≤ d) (C0 : mm_Cx p s m args meth c RX9 cX9_bendOf 14 (some .int) D (mm_T cI cL cS cH) A) (hA : ∀ q, s.heap.size ≤ q → A q) {v_keptMany : Int32} {v_done : Int32} {v_rowsOf : Int32} {v_folded : Int32} {v_wronged : Int32} {v_tapeMany : Int32} {v_textMany : Int32} {v_base : Int32} {v_at : Int32} {v_ends : Int32} {v_fault : Int32} {v_opened : Int32} {v_bentMany : Int32} {v_bentWrong : Int32} {v_moreWorn : Int32} {v_planned : Int32} {v_allWrong : Int32} {v_allWorn : Int32} {v_z : Int32} {v_wishedField : Int32} {v_isFound : Bool} {v_bestWrong : Int32} {v_bestWorn : Int32} {v_bestMany : Int32} {v_soughtBy : Int32} {v_sought : Int32} {v_soughtAt : Int32} {v_foundMany : Int32} {v_foundOrder : Int32} {v_isKept : Bool} {v_imageRows : Int32} {v_imageColumns : Int32} {v_imageFolded : Int32} {v_imageWronged : Int32} {v_bodies : Int32} {v_ran : Int32} {v_ownKind : Int32} {v_ownNumber : Int32} {v_changeWas : List Int32} {v_changeIs : List Int32} {v_shapeRows : List Int32} {v_shapeColumns : List Int32} {v_below : List Int32} {v_lastBend : List Int32} {v_tape : List Int32} {v_text : List Int32} {v_names : List Int32} {v_bends : List Int32} {v_high : List Int32} {v_to : List Int32} {v_pileSize : List Int32} {v_planLine : List Int32} {v_planWay : List Int32} {v_way1 : List Int32} {v_bestWay : List Int32} {v_order1 : List Int32} {v_placeIn : List Int32} {v_bodyKind : List Int32} {v_trace : List Int32} {v_shelf : List Int32} {v_many : List Int32} {v_items : List Int64} {v_carried : List Int64} {r : Int32} (N : Nat)  : ∀ (x1 : Int32) (x2 : Int32) (x3 : Int32) (x4 : Int32) (x5 : Int32) (x6 : Int32) (x7 : Int32) (x8 : Int32) (s0 : Int32) (s1 : Int32) (s2 : Int32) (v_columnsOf : Int32) (v_limit : List Int32) (v_row : List Int32) (v_column : List Int32) (v_face : List Int32) (v_worn : List Int32) (H : Heap) (locs : List Loc) (ls : Array Slot), fX9_bendOf_101 N x1 x2 x3 x4 x5 x6 x7 x8 s0 s1 s2 v_columnsOf v_limit v_row v_column v_face v_worn = some r → va_P D mm_cl (wd_X9 cI cL cS cH a v_keptMany v_done v_rowsOf v_columnsOf v_folded v_wronged v_tapeMany v_textMany v_base v_at v_ends v_fault v_opened v_bentMany v_bentWrong v_moreWorn v_planned v_allWrong v_allWorn v_z v_wishedField v_isFound v_bestWrong v_bestWorn v_bestMany v_soughtBy v_sought v_soughtAt v_foundMany v_foundOrder v_isKept v_imageRows v_imageColumns v_imageFolded v_imageWronged v_bodies v_ran v_ownKind v_ownNumber v_limit v_changeWas v_changeIs v_shapeRows v_shapeColumns v_row v_column v_below v_face v_worn v_lastBend v_tape v_text v_names v_bends v_high v_to v_pileSize v_planLine v_planWay v_way1 v_bestWay v_order1 v_placeIn v_bodyKind v_trace v_shelf v_many v_items v_carried) H → va_D A (wd_X9 cI cL cS cH a v_keptMany v_done v_rowsOf v_columnsOf v_folded v_wronged v_tapeMany v_textMany v_base v_at v_ends v_fault v_opened v_bentMany v_bentWrong v_moreWorn v_planned v_allWrong v_allWorn v_z v_wishedField v_isFound v_bestWrong v_bestWorn v_bestMany v_soughtBy v_sought v_soughtAt v_foundMany v_foundOrder v_isKept v_imageRows v_imageColumns v_imageFolded v_imageWronged v_bodies v_ran v_ownKind v_ownNumber v_limit v_changeWas v_changeIs v_shapeRows v_shapeColumns v_row v_column v_below v_face v_worn v_lastBend v_tape v_text v_names v_bends v_high v_to v_pileSize v_planLine v_planWay v_way1 v_bestWay v_order1 v_placeIn v_bodyKind v_trace v_shelf v_many v_items v_carried) → va_S A s.heap H locs → lv_has ls 14 [(0, .ref (a 0)), (1, .int x1), (2, .int x2), (3, .int x3), (4, .int x4), (5, .int x5), (6, .int x6), (7, .int x7), (8, .int x8)] → W p l e (mm_rr d) s m args below meth c H locs 0 0 (mm_Z below D A (wd_X9 cI cL cS cH a v_keptMany v_done v_rowsOf v_columnsOf v_folded v_wronged v_tapeMany v_textMany v_base v_at v_ends v_fault v_opened v_bentMany v_bentWrong v_moreWorn v_planned v_allWrong v_allWorn v_z v_wishedField v_isFound v_bestWrong v_bestWorn v_bestMany v_soughtBy v_sought v_soughtAt v_foundMany v_foundOrder v_isKept v_imageRows v_imageColumns v_imageFolded v_imageWronged v_bodies v_ran v_ownKind v_ownNumber v_limit v_changeWas v_changeIs v_shapeRows v_shapeColumns v_row v_column v_below v_face v_worn v_lastBend v_tape v_text v_names v_bends v_high v_to v_pileSize v_planLine v_planWay v_way1 v_bestWay v_order1 v_placeIn v_bodyKind v_trace v_shelf v_many v_items v_carried) (some (.int r)) args s) (F0 m 101 ls [.int s0, .int s1, .int s2, .ref (a 0)]) := by
  obtain ⟨hx, hb, hml, hown, hts, hr, hlocks, hK, hSt⟩ := id C0
  intro x1 x2 x3 x4 x5 x6 x7 x8 s0 s1 s2 v_columnsOf v_limit v_row v_column v_face v_worn H locs ls hf hP hD hS hl
  unfold fX9_bendOf_101 at hf
  obtain ⟨r_14, hc_15, hf⟩ := mm_bd1s hf
  refine mm_callVF (q0 := 0) (ci := 9) (rest := []) C0 lk_X9_204 (ctX9_placeOf (a := a) (d := d - 1) (by omega) hc_15) (by omega) rfl hl.1 rfl (mm_cat rfl) dX9_bendOf_101 hP hD hA hS rfl rfl (fun H locs hP hD hS => ?_)
  refine W.eq (g2 := F0 m 104 ls [.int r_14]) rfl ?_
  refine lv_aload_n hx hb dX9_bendOf_104 rfl (lv_at hl 0 rfl) ?_
  refine lv_iload_n hx hb dX9_bendOf_105 rfl (lv_at hl 1 rfl) ?_
  refine lv_iload hx hb dX9_bendOf_106 (lv_at hl 6 rfl) ?_
  refine lv_iload hx hb dX9_bendOf_108 (lv_at hl 7 rfl) ?_
  refine lv_if_ne (tgt := 117) hx hb dX9_bendOf_110 (by decide) (fun c_16 => ?_) (fun c_16 => ?_)
  · have hf := mm_in hf c_16
    refine lv_iconst (v := 0) hx hb dX9_bendOf_117 (by decide) ?_
    exact tX9_bendOf_118 hd C0 hA N  _ _ _ _ _ _ _ _ _ _ _ _ _ _ _ _ _ H locs ls hf hP hD hS (lv_sub hl [0, 1, 2, 3, 4, 5, 6, 8] rfl)
  · have hf := mm_ip hf c_16
    refine lv_iconst (v := 1) hx hb dX9_bendOf_113 (by decide) ?_
    refine lv_goto (tgt := 118) hx hb dX9_bendOf_114 (by decide) ?_
    exact tX9_bendOf_118 hd C0 hA N  _ _ _ _ _ _ _ _ _ _ _ _ _ _ _ _ _ H locs ls hf hP hD hS (lv_sub hl [0, 1, 2, 3, 4, 5, 6, 8] rfl)

def fX9_bendOf_80 (N : Nat)  (x1 : Int32) (x2 : Int32) (x3 : Int32) (x4 : Int32) (x5 : Int32) (x6 : Int32) (x7 : Int32) (x8 : Int32) (s0 : Int32) (v_columnsOf : Int32) (v_limit : List Int32) (v_row : List Int32) (v_column : List Int32) (v_face : List Int32) (v_worn : List Int32) : Option (Int32) :=
    if s0 = 0 then
    (some ((0 : Int32)))
    else (if x7 = 0 then
    (fX9_bendOf_101 N x1 x2 x3 x4 x5 x6 x7 x8 (1 : Int32) x5 x1 v_columnsOf v_limit v_row v_column v_face v_worn)
    else (fX9_bendOf_101 N x1 x2 x3 x4 x5 x6 x7 x8 (0 : Int32) x5 x1 v_columnsOf v_limit v_row v_column v_face v_worn))

set_option maxHeartbeats 4000000 in
set_option maxRecDepth 100000 in
theorem tX9_bendOf_80 {p : Program} {l : Launch} {e : Env} {s : State} {m : MethodId} {args : Array Value} {below : List Frame} {meth : Method} {c : Code} {D : va_G} {cI cL cS cH : ClassId} {A : Nat → Prop} {d : Nat} {a : Nat → Nat} (hd : 2 ≤ d) (C0 : mm_Cx p s m args meth c RX9 cX9_bendOf 14 (some .int) D (mm_T cI cL cS cH) A) (hA : ∀ q, s.heap.size ≤ q → A q) {v_keptMany : Int32} {v_done : Int32} {v_rowsOf : Int32} {v_folded : Int32} {v_wronged : Int32} {v_tapeMany : Int32} {v_textMany : Int32} {v_base : Int32} {v_at : Int32} {v_ends : Int32} {v_fault : Int32} {v_opened : Int32} {v_bentMany : Int32} {v_bentWrong : Int32} {v_moreWorn : Int32} {v_planned : Int32} {v_allWrong : Int32} {v_allWorn : Int32} {v_z : Int32} {v_wishedField : Int32} {v_isFound : Bool} {v_bestWrong : Int32} {v_bestWorn : Int32} {v_bestMany : Int32} {v_soughtBy : Int32} {v_sought : Int32} {v_soughtAt : Int32} {v_foundMany : Int32} {v_foundOrder : Int32} {v_isKept : Bool} {v_imageRows : Int32} {v_imageColumns : Int32} {v_imageFolded : Int32} {v_imageWronged : Int32} {v_bodies : Int32} {v_ran : Int32} {v_ownKind : Int32} {v_ownNumber : Int32} {v_changeWas : List Int32} {v_changeIs : List Int32} {v_shapeRows : List Int32} {v_shapeColumns : List Int32} {v_below : List Int32} {v_lastBend : List Int32} {v_tape : List Int32} {v_text : List Int32} {v_names : List Int32} {v_bends : List Int32} {v_high : List Int32} {v_to : List Int32} {v_pileSize : List Int32} {v_planLine : List Int32} {v_planWay : List Int32} {v_way1 : List Int32} {v_bestWay : List Int32} {v_order1 : List Int32} {v_placeIn : List Int32} {v_bodyKind : List Int32} {v_trace : List Int32} {v_shelf : List Int32} {v_many : List Int32} {v_items : List Int64} {v_carried : List Int64} {r : Int32} (N : Nat)  : ∀ (x1 : Int32) (x2 : Int32) (x3 : Int32) (x4 : Int32) (x5 : Int32) (x6 : Int32) (x7 : Int32) (x8 : Int32) (s0 : Int32) (v_columnsOf : Int32) (v_limit : List Int32) (v_row : List Int32) (v_column : List Int32) (v_face : List Int32) (v_worn : List Int32) (H : Heap) (locs : List Loc) (ls : Array Slot), fX9_bendOf_80 N x1 x2 x3 x4 x5 x6 x7 x8 s0 v_columnsOf v_limit v_row v_column v_face v_worn = some r → va_P D mm_cl (wd_X9 cI cL cS cH a v_keptMany v_done v_rowsOf v_columnsOf v_folded v_wronged v_tapeMany v_textMany v_base v_at v_ends v_fault v_opened v_bentMany v_bentWrong v_moreWorn v_planned v_allWrong v_allWorn v_z v_wishedField v_isFound v_bestWrong v_bestWorn v_bestMany v_soughtBy v_sought v_soughtAt v_foundMany v_foundOrder v_isKept v_imageRows v_imageColumns v_imageFolded v_imageWronged v_bodies v_ran v_ownKind v_ownNumber v_limit v_changeWas v_changeIs v_shapeRows v_shapeColumns v_row v_column v_below v_face v_worn v_lastBend v_tape v_text v_names v_bends v_high v_to v_pileSize v_planLine v_planWay v_way1 v_bestWay v_order1 v_placeIn v_bodyKind v_trace v_shelf v_many v_items v_carried) H → va_D A (wd_X9 cI cL cS cH a v_keptMany v_done v_rowsOf v_columnsOf v_folded v_wronged v_tapeMany v_textMany v_base v_at v_ends v_fault v_opened v_bentMany v_bentWrong v_moreWorn v_planned v_allWrong v_allWorn v_z v_wishedField v_isFound v_bestWrong v_bestWorn v_bestMany v_soughtBy v_sought v_soughtAt v_foundMany v_foundOrder v_isKept v_imageRows v_imageColumns v_imageFolded v_imageWronged v_bodies v_ran v_ownKind v_ownNumber v_limit v_changeWas v_changeIs v_shapeRows v_shapeColumns v_row v_column v_below v_face v_worn v_lastBend v_tape v_text v_names v_bends v_high v_to v_pileSize v_planLine v_planWay v_way1 v_bestWay v_order1 v_placeIn v_bodyKind v_trace v_shelf v_many v_items v_carried) → va_S A s.heap H locs → lv_has ls 14 [(0, .ref (a 0)), (1, .int x1), (2, .int x2), (3, .int x3), (4, .int x4), (5, .int x5), (6, .int x6), (7, .int x7), (8, .int x8)] → W p l e (mm_rr d) s m args below meth c H locs 0 0 (mm_Z below D A (wd_X9 cI cL cS cH a v_keptMany v_done v_rowsOf v_columnsOf v_folded v_wronged v_tapeMany v_textMany v_base v_at v_ends v_fault v_opened v_bentMany v_bentWrong v_moreWorn v_planned v_allWrong v_allWorn v_z v_wishedField v_isFound v_bestWrong v_bestWorn v_bestMany v_soughtBy v_sought v_soughtAt v_foundMany v_foundOrder v_isKept v_imageRows v_imageColumns v_imageFolded v_imageWronged v_bodies v_ran v_ownKind v_ownNumber v_limit v_changeWas v_changeIs v_shapeRows v_shapeColumns v_row v_column v_below v_face v_worn v_lastBend v_tape v_text v_names v_bends v_high v_to v_pileSize v_planLine v_planWay v_way1 v_bestWay v_order1 v_placeIn v_bodyKind v_trace v_shelf v_many v_items v_carried) (some (.int r)) args s) (F0 m 80 ls [.int s0]) := by
  obtain ⟨hx, hb, hml, hown, hts, hr, hlocks, hK, hSt⟩ := id C0
  intro x1 x2 x3 x4 x5 x6 x7 x8 s0 v_columnsOf v_limit v_row v_column v_face v_worn H locs ls hf hP hD hS hl
  unfold fX9_bendOf_80 at hf
  refine lv_istore (lv' := [(10, .int s0), (0, .ref (a 0)), (1, .int x1), (2, .int x2), (3, .int x3), (4, .int x4), (5, .int x5), (6, .int x6), (7, .int x7), (8, .int x8)]) hx hb dX9_bendOf_80 hl (by decide) rfl (fun ls hl => ?_)
  refine lv_iload hx hb dX9_bendOf_82 (lv_at hl 0 rfl) ?_
  refine lv_if_eq (tgt := 144) hx hb dX9_bendOf_84 (by decide) (fun c_12 => ?_) (fun c_12 => ?_)
  · have hf := mm_ip hf c_12
    refine lv_iconst (v := 0) hx hb dX9_bendOf_144 (by decide) ?_
    obtain rfl := mm_inj1 hf
    exact mm_iret C0 hP hD hS dX9_bendOf_145
  · have hf := mm_in hf c_12
    refine lv_aload_n hx hb dX9_bendOf_87 rfl (lv_at hl 1 rfl) ?_
    refine lv_iload_n hx hb dX9_bendOf_88 rfl (lv_at hl 2 rfl) ?_
    refine lv_iload hx hb dX9_bendOf_89 (lv_at hl 6 rfl) ?_
    refine lv_iload hx hb dX9_bendOf_91 (lv_at hl 8 rfl) ?_
    refine lv_if_ne (tgt := 100) hx hb dX9_bendOf_93 (by decide) (fun c_13 => ?_) (fun c_13 => ?_)
    · have hf := mm_in hf c_13
      refine lv_iconst (v := 0) hx hb dX9_bendOf_100 (by decide) ?_
      exact tX9_bendOf_101 hd C0 hA N  _ _ _ _ _ _ _ _ _ _ _ _ _ _ _ _ _ H locs ls hf hP hD hS (lv_sub hl [1, 2, 3, 4, 5, 6, 7, 8, 9] rfl)
    · have hf := mm_ip hf c_13
      refine lv_iconst (v := 1) hx hb dX9_bendOf_96 (by decide) ?_
      refine lv_goto (tgt := 101) hx hb dX9_bendOf_97 (by decide) ?_
      exact tX9_bendOf_101 hd C0 hA N  _ _ _ _ _ _ _ _ _ _ _ _ _ _ _ _ _ H locs ls hf hP hD hS (lv_sub hl [1, 2, 3, 4, 5, 6, 7, 8, 9] rfl)

def fX9_bendOf_75 (N : Nat)  (x1 : Int32) (x2 : Int32) (x3 : Int32) (x4 : Int32) (x5 : Int32) (x6 : Int32) (x7 : Int32) (x8 : Int32) (v_columnsOf : Int32) (v_limit : List Int32) (v_row : List Int32) (v_column : List Int32) (v_face : List Int32) (v_worn : List Int32) : Option (Int32) :=
    fX9_bendOf_80 N x1 x2 x3 x4 x5 x6 x7 x8 (1 : Int32) v_columnsOf v_limit v_row v_column v_face v_worn

set_option maxHeartbeats 4000000 in
set_option maxRecDepth 100000 in
theorem tX9_bendOf_75 {p : Program} {l : Launch} {e : Env} {s : State} {m : MethodId} {args : Array Value} {below : List Frame} {meth : Method} {c : Code} {D : va_G} {cI cL cS cH : ClassId} {A : Nat → Prop} {d : Nat} {a : Nat → Nat} (hd : 2 ≤ d) (C0 : mm_Cx p s m args meth c RX9 cX9_bendOf 14 (some .int) D (mm_T cI cL cS cH) A) (hA : ∀ q, s.heap.size ≤ q → A q) {v_keptMany : Int32} {v_done : Int32} {v_rowsOf : Int32} {v_folded : Int32} {v_wronged : Int32} {v_tapeMany : Int32} {v_textMany : Int32} {v_base : Int32} {v_at : Int32} {v_ends : Int32} {v_fault : Int32} {v_opened : Int32} {v_bentMany : Int32} {v_bentWrong : Int32} {v_moreWorn : Int32} {v_planned : Int32} {v_allWrong : Int32} {v_allWorn : Int32} {v_z : Int32} {v_wishedField : Int32} {v_isFound : Bool} {v_bestWrong : Int32} {v_bestWorn : Int32} {v_bestMany : Int32} {v_soughtBy : Int32} {v_sought : Int32} {v_soughtAt : Int32} {v_foundMany : Int32} {v_foundOrder : Int32} {v_isKept : Bool} {v_imageRows : Int32} {v_imageColumns : Int32} {v_imageFolded : Int32} {v_imageWronged : Int32} {v_bodies : Int32} {v_ran : Int32} {v_ownKind : Int32} {v_ownNumber : Int32} {v_changeWas : List Int32} {v_changeIs : List Int32} {v_shapeRows : List Int32} {v_shapeColumns : List Int32} {v_below : List Int32} {v_lastBend : List Int32} {v_tape : List Int32} {v_text : List Int32} {v_names : List Int32} {v_bends : List Int32} {v_high : List Int32} {v_to : List Int32} {v_pileSize : List Int32} {v_planLine : List Int32} {v_planWay : List Int32} {v_way1 : List Int32} {v_bestWay : List Int32} {v_order1 : List Int32} {v_placeIn : List Int32} {v_bodyKind : List Int32} {v_trace : List Int32} {v_shelf : List Int32} {v_many : List Int32} {v_items : List Int64} {v_carried : List Int64} {r : Int32} (N : Nat)  : ∀ (x1 : Int32) (x2 : Int32) (x3 : Int32) (x4 : Int32) (x5 : Int32) (x6 : Int32) (x7 : Int32) (x8 : Int32) (v_columnsOf : Int32) (v_limit : List Int32) (v_row : List Int32) (v_column : List Int32) (v_face : List Int32) (v_worn : List Int32) (H : Heap) (locs : List Loc) (ls : Array Slot), fX9_bendOf_75 N x1 x2 x3 x4 x5 x6 x7 x8 v_columnsOf v_limit v_row v_column v_face v_worn = some r → va_P D mm_cl (wd_X9 cI cL cS cH a v_keptMany v_done v_rowsOf v_columnsOf v_folded v_wronged v_tapeMany v_textMany v_base v_at v_ends v_fault v_opened v_bentMany v_bentWrong v_moreWorn v_planned v_allWrong v_allWorn v_z v_wishedField v_isFound v_bestWrong v_bestWorn v_bestMany v_soughtBy v_sought v_soughtAt v_foundMany v_foundOrder v_isKept v_imageRows v_imageColumns v_imageFolded v_imageWronged v_bodies v_ran v_ownKind v_ownNumber v_limit v_changeWas v_changeIs v_shapeRows v_shapeColumns v_row v_column v_below v_face v_worn v_lastBend v_tape v_text v_names v_bends v_high v_to v_pileSize v_planLine v_planWay v_way1 v_bestWay v_order1 v_placeIn v_bodyKind v_trace v_shelf v_many v_items v_carried) H → va_D A (wd_X9 cI cL cS cH a v_keptMany v_done v_rowsOf v_columnsOf v_folded v_wronged v_tapeMany v_textMany v_base v_at v_ends v_fault v_opened v_bentMany v_bentWrong v_moreWorn v_planned v_allWrong v_allWorn v_z v_wishedField v_isFound v_bestWrong v_bestWorn v_bestMany v_soughtBy v_sought v_soughtAt v_foundMany v_foundOrder v_isKept v_imageRows v_imageColumns v_imageFolded v_imageWronged v_bodies v_ran v_ownKind v_ownNumber v_limit v_changeWas v_changeIs v_shapeRows v_shapeColumns v_row v_column v_below v_face v_worn v_lastBend v_tape v_text v_names v_bends v_high v_to v_pileSize v_planLine v_planWay v_way1 v_bestWay v_order1 v_placeIn v_bodyKind v_trace v_shelf v_many v_items v_carried) → va_S A s.heap H locs → lv_has ls 14 [(0, .ref (a 0)), (1, .int x1), (2, .int x2), (3, .int x3), (4, .int x4), (5, .int x5), (6, .int x6), (7, .int x7), (8, .int x8)] → W p l e (mm_rr d) s m args below meth c H locs 0 0 (mm_Z below D A (wd_X9 cI cL cS cH a v_keptMany v_done v_rowsOf v_columnsOf v_folded v_wronged v_tapeMany v_textMany v_base v_at v_ends v_fault v_opened v_bentMany v_bentWrong v_moreWorn v_planned v_allWrong v_allWorn v_z v_wishedField v_isFound v_bestWrong v_bestWorn v_bestMany v_soughtBy v_sought v_soughtAt v_foundMany v_foundOrder v_isKept v_imageRows v_imageColumns v_imageFolded v_imageWronged v_bodies v_ran v_ownKind v_ownNumber v_limit v_changeWas v_changeIs v_shapeRows v_shapeColumns v_row v_column v_below v_face v_worn v_lastBend v_tape v_text v_names v_bends v_high v_to v_pileSize v_planLine v_planWay v_way1 v_bestWay v_order1 v_placeIn v_bodyKind v_trace v_shelf v_many v_items v_carried) (some (.int r)) args s) (F0 m 75 ls []) := by
  obtain ⟨hx, hb, hml, hown, hts, hr, hlocks, hK, hSt⟩ := id C0
  intro x1 x2 x3 x4 x5 x6 x7 x8 v_columnsOf v_limit v_row v_column v_face v_worn H locs ls hf hP hD hS hl
  unfold fX9_bendOf_75 at hf
  refine lv_iconst (v := 1) hx hb dX9_bendOf_75 (by decide) ?_
  refine lv_goto (tgt := 80) hx hb dX9_bendOf_76 (by decide) ?_
  exact tX9_bendOf_80 hd C0 hA N  _ _ _ _ _ _ _ _ _ _ _ _ _ _ _ H locs ls hf hP hD hS (lv_sub hl [0, 1, 2, 3, 4, 5, 6, 7, 8] rfl)

def fX9_bendOf_79 (N : Nat)  (x1 : Int32) (x2 : Int32) (x3 : Int32) (x4 : Int32) (x5 : Int32) (x6 : Int32) (x7 : Int32) (x8 : Int32) (v_columnsOf : Int32) (v_limit : List Int32) (v_row : List Int32) (v_column : List Int32) (v_face : List Int32) (v_worn : List Int32) : Option (Int32) :=
    fX9_bendOf_80 N x1 x2 x3 x4 x5 x6 x7 x8 (0 : Int32) v_columnsOf v_limit v_row v_column v_face v_worn

set_option maxHeartbeats 4000000 in
set_option maxRecDepth 100000 in
theorem tX9_bendOf_79 {p : Program} {l : Launch} {e : Env} {s : State} {m : MethodId} {args : Array Value} {below : List Frame} {meth : Method} {c : Code} {D : va_G} {cI cL cS cH : ClassId} {A : Nat → Prop} {d : Nat} {a : Nat → Nat} (hd : 2 ≤ d) (C0 : mm_Cx p s m args meth c RX9 cX9_bendOf 14 (some .int) D (mm_T cI cL cS cH) A) (hA : ∀ q, s.heap.size ≤ q → A q) {v_keptMany : Int32} {v_done : Int32} {v_rowsOf : Int32} {v_folded : Int32} {v_wronged : Int32} {v_tapeMany : Int32} {v_textMany : Int32} {v_base : Int32} {v_at : Int32} {v_ends : Int32} {v_fault : Int32} {v_opened : Int32} {v_bentMany : Int32} {v_bentWrong : Int32} {v_moreWorn : Int32} {v_planned : Int32} {v_allWrong : Int32} {v_allWorn : Int32} {v_z : Int32} {v_wishedField : Int32} {v_isFound : Bool} {v_bestWrong : Int32} {v_bestWorn : Int32} {v_bestMany : Int32} {v_soughtBy : Int32} {v_sought : Int32} {v_soughtAt : Int32} {v_foundMany : Int32} {v_foundOrder : Int32} {v_isKept : Bool} {v_imageRows : Int32} {v_imageColumns : Int32} {v_imageFolded : Int32} {v_imageWronged : Int32} {v_bodies : Int32} {v_ran : Int32} {v_ownKind : Int32} {v_ownNumber : Int32} {v_changeWas : List Int32} {v_changeIs : List Int32} {v_shapeRows : List Int32} {v_shapeColumns : List Int32} {v_below : List Int32} {v_lastBend : List Int32} {v_tape : List Int32} {v_text : List Int32} {v_names : List Int32} {v_bends : List Int32} {v_high : List Int32} {v_to : List Int32} {v_pileSize : List Int32} {v_planLine : List Int32} {v_planWay : List Int32} {v_way1 : List Int32} {v_bestWay : List Int32} {v_order1 : List Int32} {v_placeIn : List Int32} {v_bodyKind : List Int32} {v_trace : List Int32} {v_shelf : List Int32} {v_many : List Int32} {v_items : List Int64} {v_carried : List Int64} {r : Int32} (N : Nat)  : ∀ (x1 : Int32) (x2 : Int32) (x3 : Int32) (x4 : Int32) (x5 : Int32) (x6 : Int32) (x7 : Int32) (x8 : Int32) (v_columnsOf : Int32) (v_limit : List Int32) (v_row : List Int32) (v_column : List Int32) (v_face : List Int32) (v_worn : List Int32) (H : Heap) (locs : List Loc) (ls : Array Slot), fX9_bendOf_79 N x1 x2 x3 x4 x5 x6 x7 x8 v_columnsOf v_limit v_row v_column v_face v_worn = some r → va_P D mm_cl (wd_X9 cI cL cS cH a v_keptMany v_done v_rowsOf v_columnsOf v_folded v_wronged v_tapeMany v_textMany v_base v_at v_ends v_fault v_opened v_bentMany v_bentWrong v_moreWorn v_planned v_allWrong v_allWorn v_z v_wishedField v_isFound v_bestWrong v_bestWorn v_bestMany v_soughtBy v_sought v_soughtAt v_foundMany v_foundOrder v_isKept v_imageRows v_imageColumns v_imageFolded v_imageWronged v_bodies v_ran v_ownKind v_ownNumber v_limit v_changeWas v_changeIs v_shapeRows v_shapeColumns v_row v_column v_below v_face v_worn v_lastBend v_tape v_text v_names v_bends v_high v_to v_pileSize v_planLine v_planWay v_way1 v_bestWay v_order1 v_placeIn v_bodyKind v_trace v_shelf v_many v_items v_carried) H → va_D A (wd_X9 cI cL cS cH a v_keptMany v_done v_rowsOf v_columnsOf v_folded v_wronged v_tapeMany v_textMany v_base v_at v_ends v_fault v_opened v_bentMany v_bentWrong v_moreWorn v_planned v_allWrong v_allWorn v_z v_wishedField v_isFound v_bestWrong v_bestWorn v_bestMany v_soughtBy v_sought v_soughtAt v_foundMany v_foundOrder v_isKept v_imageRows v_imageColumns v_imageFolded v_imageWronged v_bodies v_ran v_ownKind v_ownNumber v_limit v_changeWas v_changeIs v_shapeRows v_shapeColumns v_row v_column v_below v_face v_worn v_lastBend v_tape v_text v_names v_bends v_high v_to v_pileSize v_planLine v_planWay v_way1 v_bestWay v_order1 v_placeIn v_bodyKind v_trace v_shelf v_many v_items v_carried) → va_S A s.heap H locs → lv_has ls 14 [(0, .ref (a 0)), (1, .int x1), (2, .int x2), (3, .int x3), (4, .int x4), (5, .int x5), (6, .int x6), (7, .int x7), (8, .int x8)] → W p l e (mm_rr d) s m args below meth c H locs 0 0 (mm_Z below D A (wd_X9 cI cL cS cH a v_keptMany v_done v_rowsOf v_columnsOf v_folded v_wronged v_tapeMany v_textMany v_base v_at v_ends v_fault v_opened v_bentMany v_bentWrong v_moreWorn v_planned v_allWrong v_allWorn v_z v_wishedField v_isFound v_bestWrong v_bestWorn v_bestMany v_soughtBy v_sought v_soughtAt v_foundMany v_foundOrder v_isKept v_imageRows v_imageColumns v_imageFolded v_imageWronged v_bodies v_ran v_ownKind v_ownNumber v_limit v_changeWas v_changeIs v_shapeRows v_shapeColumns v_row v_column v_below v_face v_worn v_lastBend v_tape v_text v_names v_bends v_high v_to v_pileSize v_planLine v_planWay v_way1 v_bestWay v_order1 v_placeIn v_bodyKind v_trace v_shelf v_many v_items v_carried) (some (.int r)) args s) (F0 m 79 ls []) := by
  obtain ⟨hx, hb, hml, hown, hts, hr, hlocks, hK, hSt⟩ := id C0
  intro x1 x2 x3 x4 x5 x6 x7 x8 v_columnsOf v_limit v_row v_column v_face v_worn H locs ls hf hP hD hS hl
  unfold fX9_bendOf_79 at hf
  refine lv_iconst (v := 0) hx hb dX9_bendOf_79 (by decide) ?_
  exact tX9_bendOf_80 hd C0 hA N  _ _ _ _ _ _ _ _ _ _ _ _ _ _ _ H locs ls hf hP hD hS (lv_sub hl [0, 1, 2, 3, 4, 5, 6, 7, 8] rfl)

def fX9_bendOf_61 (N : Nat)  (x1 : Int32) (x2 : Int32) (x3 : Int32) (x4 : Int32) (x5 : Int32) (x6 : Int32) (x7 : Int32) (x8 : Int32) (x9 : Int32) (v_columnsOf : Int32) (v_limit : List Int32) (v_row : List Int32) (v_column : List Int32) (v_face : List Int32) (v_worn : List Int32) : Option (Int32) :=
    if x8 = x3 then
    (if x9 = (x3 - (1 : Int32)) then
    (fX9_bendOf_75 N x1 x2 x3 x4 x5 x6 x7 x8 v_columnsOf v_limit v_row v_column v_face v_worn)
    else (fX9_bendOf_79 N x1 x2 x3 x4 x5 x6 x7 x8 v_columnsOf v_limit v_row v_column v_face v_worn))
    else (fX9_bendOf_79 N x1 x2 x3 x4 x5 x6 x7 x8 v_columnsOf v_limit v_row v_column v_face v_worn)

set_option maxHeartbeats 4000000 in
set_option maxRecDepth 100000 in
theorem tX9_bendOf_61 {p : Program} {l : Launch} {e : Env} {s : State} {m : MethodId} {args : Array Value} {below : List Frame} {meth : Method} {c : Code} {D : va_G} {cI cL cS cH : ClassId} {A : Nat → Prop} {d : Nat} {a : Nat → Nat} (hd : 2 ≤ d) (C0 : mm_Cx p s m args meth c RX9 cX9_bendOf 14 (some .int) D (mm_T cI cL cS cH) A) (hA : ∀ q, s.heap.size ≤ q → A q) {v_keptMany : Int32} {v_done : Int32} {v_rowsOf : Int32} {v_folded : Int32} {v_wronged : Int32} {v_tapeMany : Int32} {v_textMany : Int32} {v_base : Int32} {v_at : Int32} {v_ends : Int32} {v_fault : Int32} {v_opened : Int32} {v_bentMany : Int32} {v_bentWrong : Int32} {v_moreWorn : Int32} {v_planned : Int32} {v_allWrong : Int32} {v_allWorn : Int32} {v_z : Int32} {v_wishedField : Int32} {v_isFound : Bool} {v_bestWrong : Int32} {v_bestWorn : Int32} {v_bestMany : Int32} {v_soughtBy : Int32} {v_sought : Int32} {v_soughtAt : Int32} {v_foundMany : Int32} {v_foundOrder : Int32} {v_isKept : Bool} {v_imageRows : Int32} {v_imageColumns : Int32} {v_imageFolded : Int32} {v_imageWronged : Int32} {v_bodies : Int32} {v_ran : Int32} {v_ownKind : Int32} {v_ownNumber : Int32} {v_changeWas : List Int32} {v_changeIs : List Int32} {v_shapeRows : List Int32} {v_shapeColumns : List Int32} {v_below : List Int32} {v_lastBend : List Int32} {v_tape : List Int32} {v_text : List Int32} {v_names : List Int32} {v_bends : List Int32} {v_high : List Int32} {v_to : List Int32} {v_pileSize : List Int32} {v_planLine : List Int32} {v_planWay : List Int32} {v_way1 : List Int32} {v_bestWay : List Int32} {v_order1 : List Int32} {v_placeIn : List Int32} {v_bodyKind : List Int32} {v_trace : List Int32} {v_shelf : List Int32} {v_many : List Int32} {v_items : List Int64} {v_carried : List Int64} {r : Int32} (N : Nat)  : ∀ (x1 : Int32) (x2 : Int32) (x3 : Int32) (x4 : Int32) (x5 : Int32) (x6 : Int32) (x7 : Int32) (x8 : Int32) (x9 : Int32) (v_columnsOf : Int32) (v_limit : List Int32) (v_row : List Int32) (v_column : List Int32) (v_face : List Int32) (v_worn : List Int32) (H : Heap) (locs : List Loc) (ls : Array Slot), fX9_bendOf_61 N x1 x2 x3 x4 x5 x6 x7 x8 x9 v_columnsOf v_limit v_row v_column v_face v_worn = some r → va_P D mm_cl (wd_X9 cI cL cS cH a v_keptMany v_done v_rowsOf v_columnsOf v_folded v_wronged v_tapeMany v_textMany v_base v_at v_ends v_fault v_opened v_bentMany v_bentWrong v_moreWorn v_planned v_allWrong v_allWorn v_z v_wishedField v_isFound v_bestWrong v_bestWorn v_bestMany v_soughtBy v_sought v_soughtAt v_foundMany v_foundOrder v_isKept v_imageRows v_imageColumns v_imageFolded v_imageWronged v_bodies v_ran v_ownKind v_ownNumber v_limit v_changeWas v_changeIs v_shapeRows v_shapeColumns v_row v_column v_below v_face v_worn v_lastBend v_tape v_text v_names v_bends v_high v_to v_pileSize v_planLine v_planWay v_way1 v_bestWay v_order1 v_placeIn v_bodyKind v_trace v_shelf v_many v_items v_carried) H → va_D A (wd_X9 cI cL cS cH a v_keptMany v_done v_rowsOf v_columnsOf v_folded v_wronged v_tapeMany v_textMany v_base v_at v_ends v_fault v_opened v_bentMany v_bentWrong v_moreWorn v_planned v_allWrong v_allWorn v_z v_wishedField v_isFound v_bestWrong v_bestWorn v_bestMany v_soughtBy v_sought v_soughtAt v_foundMany v_foundOrder v_isKept v_imageRows v_imageColumns v_imageFolded v_imageWronged v_bodies v_ran v_ownKind v_ownNumber v_limit v_changeWas v_changeIs v_shapeRows v_shapeColumns v_row v_column v_below v_face v_worn v_lastBend v_tape v_text v_names v_bends v_high v_to v_pileSize v_planLine v_planWay v_way1 v_bestWay v_order1 v_placeIn v_bodyKind v_trace v_shelf v_many v_items v_carried) → va_S A s.heap H locs → lv_has ls 14 [(0, .ref (a 0)), (1, .int x1), (2, .int x2), (3, .int x3), (4, .int x4), (5, .int x5), (6, .int x6), (7, .int x7), (8, .int x8), (9, .int x9)] → W p l e (mm_rr d) s m args below meth c H locs 0 0 (mm_Z below D A (wd_X9 cI cL cS cH a v_keptMany v_done v_rowsOf v_columnsOf v_folded v_wronged v_tapeMany v_textMany v_base v_at v_ends v_fault v_opened v_bentMany v_bentWrong v_moreWorn v_planned v_allWrong v_allWorn v_z v_wishedField v_isFound v_bestWrong v_bestWorn v_bestMany v_soughtBy v_sought v_soughtAt v_foundMany v_foundOrder v_isKept v_imageRows v_imageColumns v_imageFolded v_imageWronged v_bodies v_ran v_ownKind v_ownNumber v_limit v_changeWas v_changeIs v_shapeRows v_shapeColumns v_row v_column v_below v_face v_worn v_lastBend v_tape v_text v_names v_bends v_high v_to v_pileSize v_planLine v_planWay v_way1 v_bestWay v_order1 v_placeIn v_bodyKind v_trace v_shelf v_many v_items v_carried) (some (.int r)) args s) (F0 m 61 ls []) := by
  obtain ⟨hx, hb, hml, hown, hts, hr, hlocks, hK, hSt⟩ := id C0
  intro x1 x2 x3 x4 x5 x6 x7 x8 x9 v_columnsOf v_limit v_row v_column v_face v_worn H locs ls hf hP hD hS hl
  unfold fX9_bendOf_61 at hf
  refine lv_iload hx hb dX9_bendOf_61 (lv_at hl 8 rfl) ?_
  refine lv_iload_n hx hb dX9_bendOf_63 rfl (lv_at hl 3 rfl) ?_
  refine lv_icmp_ne (tgt := 79) hx hb dX9_bendOf_64 (by decide) (fun c_32 => ?_) (fun c_32 => ?_)
  · have hf := mm_in hf c_32
    exact tX9_bendOf_79 hd C0 hA N  _ _ _ _ _ _ _ _ _ _ _ _ _ _ H locs ls hf hP hD hS (lv_sub hl [0, 1, 2, 3, 4, 5, 6, 7, 8] rfl)
  · have hf := mm_ip hf c_32
    refine lv_iload hx hb dX9_bendOf_67 (lv_at hl 9 rfl) ?_
    refine lv_iload_n hx hb dX9_bendOf_69 rfl (lv_at hl 3 rfl) ?_
    refine lv_iconst (v := 1) hx hb dX9_bendOf_70 (by decide) ?_
    refine lv_isub hx hb dX9_bendOf_71 ?_
    refine lv_icmp_ne (tgt := 79) hx hb dX9_bendOf_72 (by decide) (fun c_33 => ?_) (fun c_33 => ?_)
    · have hf := mm_in hf c_33
      exact tX9_bendOf_79 hd C0 hA N  _ _ _ _ _ _ _ _ _ _ _ _ _ _ H locs ls hf hP hD hS (lv_sub hl [0, 1, 2, 3, 4, 5, 6, 7, 8] rfl)
    · have hf := mm_ip hf c_33
      exact tX9_bendOf_75 hd C0 hA N  _ _ _ _ _ _ _ _ _ _ _ _ _ _ H locs ls hf hP hD hS (lv_sub hl [0, 1, 2, 3, 4, 5, 6, 7, 8] rfl)

def fX9_bendOf_23 (N : Nat)  (x1 : Int32) (x2 : Int32) (x3 : Int32) (x4 : Int32) (x5 : Int32) (x6 : Int32) (s0 : Int32) (v_columnsOf : Int32) (v_limit : List Int32) (v_row : List Int32) (v_column : List Int32) (v_face : List Int32) (v_worn : List Int32) : Option (Int32) :=
    mm_bd1 (fX9_placeOf N x1 x5 s0 v_row v_column) (fun (r_6 : Int32) =>
    mm_bd1 (fX9_placeOf N x1 x6 s0 v_row v_column) (fun (r_8 : Int32) =>
    if r_6 = (x3 - (1 : Int32)) then
    (if r_8 = x3 then
    (fX9_bendOf_75 N x1 x2 x3 x4 x5 x6 s0 r_6 v_columnsOf v_limit v_row v_column v_face v_worn)
    else (fX9_bendOf_61 N x1 x2 x3 x4 x5 x6 s0 r_6 r_8 v_columnsOf v_limit v_row v_column v_face v_worn))
    else (fX9_bendOf_61 N x1 x2 x3 x4 x5 x6 s0 r_6 r_8 v_columnsOf v_limit v_row v_column v_face v_worn)))

set_option maxHeartbeats 4000000 in
set_option maxRecDepth 100000 in
theorem tX9_bendOf_23 {p : Program} {l : Launch} {e : Env} {s : State} {m : MethodId} {args : Array Value} {below : List Frame} {meth : Method} {c : Code} {D : va_G} {cI cL cS cH : ClassId} {A : Nat → Prop} {d : Nat} {a : Nat → Nat} (hd : 2 ≤ d) (C0 : mm_Cx p s m args meth c RX9 cX9_bendOf 14 (some .int) D (mm_T cI cL cS cH) A) (hA : ∀ q, s.heap.size ≤ q → A q) {v_keptMany : Int32} {v_done : Int32} {v_rowsOf : Int32} {v_folded : Int32} {v_wronged : Int32} {v_tapeMany : Int32} {v_textMany : Int32} {v_base : Int32} {v_at : Int32} {v_ends : Int32} {v_fault : Int32} {v_opened : Int32} {v_bentMany : Int32} {v_bentWrong : Int32} {v_moreWorn : Int32} {v_planned : Int32} {v_allWrong : Int32} {v_allWorn : Int32} {v_z : Int32} {v_wishedField : Int32} {v_isFound : Bool} {v_bestWrong : Int32} {v_bestWorn : Int32} {v_bestMany : Int32} {v_soughtBy : Int32} {v_sought : Int32} {v_soughtAt : Int32} {v_foundMany : Int32} {v_foundOrder : Int32} {v_isKept : Bool} {v_imageRows : Int32} {v_imageColumns : Int32} {v_imageFolded : Int32} {v_imageWronged : Int32} {v_bodies : Int32} {v_ran : Int32} {v_ownKind : Int32} {v_ownNumber : Int32} {v_changeWas : List Int32} {v_changeIs : List Int32} {v_shapeRows : List Int32} {v_shapeColumns : List Int32} {v_below : List Int32} {v_lastBend : List Int32} {v_tape : List Int32} {v_text : List Int32} {v_names : List Int32} {v_bends : List Int32} {v_high : List Int32} {v_to : List Int32} {v_pileSize : List Int32} {v_planLine : List Int32} {v_planWay : List Int32} {v_way1 : List Int32} {v_bestWay : List Int32} {v_order1 : List Int32} {v_placeIn : List Int32} {v_bodyKind : List Int32} {v_trace : List Int32} {v_shelf : List Int32} {v_many : List Int32} {v_items : List Int64} {v_carried : List Int64} {r : Int32} (N : Nat)  : ∀ (x1 : Int32) (x2 : Int32) (x3 : Int32) (x4 : Int32) (x5 : Int32) (x6 : Int32) (s0 : Int32) (v_columnsOf : Int32) (v_limit : List Int32) (v_row : List Int32) (v_column : List Int32) (v_face : List Int32) (v_worn : List Int32) (H : Heap) (locs : List Loc) (ls : Array Slot), fX9_bendOf_23 N x1 x2 x3 x4 x5 x6 s0 v_columnsOf v_limit v_row v_column v_face v_worn = some r → va_P D mm_cl (wd_X9 cI cL cS cH a v_keptMany v_done v_rowsOf v_columnsOf v_folded v_wronged v_tapeMany v_textMany v_base v_at v_ends v_fault v_opened v_bentMany v_bentWrong v_moreWorn v_planned v_allWrong v_allWorn v_z v_wishedField v_isFound v_bestWrong v_bestWorn v_bestMany v_soughtBy v_sought v_soughtAt v_foundMany v_foundOrder v_isKept v_imageRows v_imageColumns v_imageFolded v_imageWronged v_bodies v_ran v_ownKind v_ownNumber v_limit v_changeWas v_changeIs v_shapeRows v_shapeColumns v_row v_column v_below v_face v_worn v_lastBend v_tape v_text v_names v_bends v_high v_to v_pileSize v_planLine v_planWay v_way1 v_bestWay v_order1 v_placeIn v_bodyKind v_trace v_shelf v_many v_items v_carried) H → va_D A (wd_X9 cI cL cS cH a v_keptMany v_done v_rowsOf v_columnsOf v_folded v_wronged v_tapeMany v_textMany v_base v_at v_ends v_fault v_opened v_bentMany v_bentWrong v_moreWorn v_planned v_allWrong v_allWorn v_z v_wishedField v_isFound v_bestWrong v_bestWorn v_bestMany v_soughtBy v_sought v_soughtAt v_foundMany v_foundOrder v_isKept v_imageRows v_imageColumns v_imageFolded v_imageWronged v_bodies v_ran v_ownKind v_ownNumber v_limit v_changeWas v_changeIs v_shapeRows v_shapeColumns v_row v_column v_below v_face v_worn v_lastBend v_tape v_text v_names v_bends v_high v_to v_pileSize v_planLine v_planWay v_way1 v_bestWay v_order1 v_placeIn v_bodyKind v_trace v_shelf v_many v_items v_carried) → va_S A s.heap H locs → lv_has ls 14 [(0, .ref (a 0)), (1, .int x1), (2, .int x2), (3, .int x3), (4, .int x4), (5, .int x5), (6, .int x6)] → W p l e (mm_rr d) s m args below meth c H locs 0 0 (mm_Z below D A (wd_X9 cI cL cS cH a v_keptMany v_done v_rowsOf v_columnsOf v_folded v_wronged v_tapeMany v_textMany v_base v_at v_ends v_fault v_opened v_bentMany v_bentWrong v_moreWorn v_planned v_allWrong v_allWorn v_z v_wishedField v_isFound v_bestWrong v_bestWorn v_bestMany v_soughtBy v_sought v_soughtAt v_foundMany v_foundOrder v_isKept v_imageRows v_imageColumns v_imageFolded v_imageWronged v_bodies v_ran v_ownKind v_ownNumber v_limit v_changeWas v_changeIs v_shapeRows v_shapeColumns v_row v_column v_below v_face v_worn v_lastBend v_tape v_text v_names v_bends v_high v_to v_pileSize v_planLine v_planWay v_way1 v_bestWay v_order1 v_placeIn v_bodyKind v_trace v_shelf v_many v_items v_carried) (some (.int r)) args s) (F0 m 23 ls [.int s0]) := by
  obtain ⟨hx, hb, hml, hown, hts, hr, hlocks, hK, hSt⟩ := id C0
  intro x1 x2 x3 x4 x5 x6 s0 v_columnsOf v_limit v_row v_column v_face v_worn H locs ls hf hP hD hS hl
  unfold fX9_bendOf_23 at hf
  refine lv_istore (lv' := [(7, .int s0), (0, .ref (a 0)), (1, .int x1), (2, .int x2), (3, .int x3), (4, .int x4), (5, .int x5), (6, .int x6)]) hx hb dX9_bendOf_23 hl (by decide) rfl (fun ls hl => ?_)
  refine lv_aload_n hx hb dX9_bendOf_25 rfl (lv_at hl 1 rfl) ?_
  refine lv_iload_n hx hb dX9_bendOf_26 rfl (lv_at hl 2 rfl) ?_
  refine lv_iload hx hb dX9_bendOf_27 (lv_at hl 6 rfl) ?_
  refine lv_iload hx hb dX9_bendOf_29 (lv_at hl 0 rfl) ?_
  obtain ⟨r_6, hc_7, hf⟩ := mm_bd1s hf
  refine mm_callVF (q0 := 0) (ci := 9) (rest := []) C0 lk_X9_204 (ctX9_placeOf (a := a) (d := d - 1) (by omega) hc_7) (by omega) rfl hl.1 rfl (mm_cat rfl) dX9_bendOf_31 hP hD hA hS rfl rfl (fun H locs hP hD hS => ?_)
  refine W.eq (g2 := F0 m 34 ls [.int r_6]) rfl ?_
  refine lv_istore (lv' := [(8, .int r_6), (7, .int s0), (0, .ref (a 0)), (1, .int x1), (2, .int x2), (3, .int x3), (4, .int x4), (5, .int x5), (6, .int x6)]) hx hb dX9_bendOf_34 hl (by decide) rfl (fun ls hl => ?_)
  refine lv_aload_n hx hb dX9_bendOf_36 rfl (lv_at hl 2 rfl) ?_
  refine lv_iload_n hx hb dX9_bendOf_37 rfl (lv_at hl 3 rfl) ?_
  refine lv_iload hx hb dX9_bendOf_38 (lv_at hl 8 rfl) ?_
  refine lv_iload hx hb dX9_bendOf_40 (lv_at hl 1 rfl) ?_
  obtain ⟨r_8, hc_9, hf⟩ := mm_bd1s hf
  refine mm_callVF (q0 := 0) (ci := 9) (rest := []) C0 lk_X9_204 (ctX9_placeOf (a := a) (d := d - 1) (by omega) hc_9) (by omega) rfl hl.1 rfl (mm_cat rfl) dX9_bendOf_42 hP hD hA hS rfl rfl (fun H locs hP hD hS => ?_)
  refine W.eq (g2 := F0 m 45 ls [.int r_8]) rfl ?_
  refine lv_istore (lv' := [(9, .int r_8), (8, .int r_6), (7, .int s0), (0, .ref (a 0)), (1, .int x1), (2, .int x2), (3, .int x3), (4, .int x4), (5, .int x5), (6, .int x6)]) hx hb dX9_bendOf_45 hl (by decide) rfl (fun ls hl => ?_)
  refine lv_iload hx hb dX9_bendOf_47 (lv_at hl 1 rfl) ?_
  refine lv_iload_n hx hb dX9_bendOf_49 rfl (lv_at hl 6 rfl) ?_
  refine lv_iconst (v := 1) hx hb dX9_bendOf_50 (by decide) ?_
  refine lv_isub hx hb dX9_bendOf_51 ?_
  refine lv_icmp_ne (tgt := 61) hx hb dX9_bendOf_52 (by decide) (fun c_10 => ?_) (fun c_10 => ?_)
  · have hf := mm_in hf c_10
    exact tX9_bendOf_61 hd C0 hA N  _ _ _ _ _ _ _ _ _ _ _ _ _ _ _ H locs ls hf hP hD hS (lv_sub hl [3, 4, 5, 6, 7, 8, 9, 2, 1, 0] rfl)
  · have hf := mm_ip hf c_10
    refine lv_iload hx hb dX9_bendOf_55 (lv_at hl 0 rfl) ?_
    refine lv_iload_n hx hb dX9_bendOf_57 rfl (lv_at hl 6 rfl) ?_
    refine lv_icmp_eq (tgt := 75) hx hb dX9_bendOf_58 (by decide) (fun c_11 => ?_) (fun c_11 => ?_)
    · have hf := mm_ip hf c_11
      exact tX9_bendOf_75 hd C0 hA N  _ _ _ _ _ _ _ _ _ _ _ _ _ _ H locs ls hf hP hD hS (lv_sub hl [3, 4, 5, 6, 7, 8, 9, 2, 1] rfl)
    · have hf := mm_in hf c_11
      exact tX9_bendOf_61 hd C0 hA N  _ _ _ _ _ _ _ _ _ _ _ _ _ _ _ H locs ls hf hP hD hS (lv_sub hl [3, 4, 5, 6, 7, 8, 9, 2, 1, 0] rfl)

def fX9_bendOf (N : Nat) (x1 : Int32) (x2 : Int32) (x3 : Int32) (x4 : Int32) (v_columnsOf : Int32) (v_limit : List Int32) (v_row : List Int32) (v_column : List Int32) (v_face : List Int32) (v_worn : List Int32) : Option (Int32) :=
    mm_ck (mm_nz (2 : Int32)) (mm_nm ((x2 / (2 : Int32))) (fun (y_2 : Int32) =>
    mm_bd1 (fX9_otherOf N x2 v_columnsOf) (fun (r_3 : Int32) =>
    if (4 : Int32) ≤ x4 then
    (fX9_bendOf_23 N x1 x2 x3 x4 y_2 r_3 (0 : Int32) v_columnsOf v_limit v_row v_column v_face v_worn)
    else (fX9_bendOf_23 N x1 x2 x3 x4 y_2 r_3 (1 : Int32) v_columnsOf v_limit v_row v_column v_face v_worn))))

set_option maxHeartbeats 4000000 in
set_option maxRecDepth 100000 in
theorem ctX9_bendOf {l : Launch} {D : va_G} {cI cL cS cH : ClassId} {a : Nat → Nat} {x1 : Int32} {x2 : Int32} {x3 : Int32} {x4 : Int32} {v_keptMany : Int32} {v_done : Int32} {v_rowsOf : Int32} {v_columnsOf : Int32} {v_folded : Int32} {v_wronged : Int32} {v_tapeMany : Int32} {v_textMany : Int32} {v_base : Int32} {v_at : Int32} {v_ends : Int32} {v_fault : Int32} {v_opened : Int32} {v_bentMany : Int32} {v_bentWrong : Int32} {v_moreWorn : Int32} {v_planned : Int32} {v_allWrong : Int32} {v_allWorn : Int32} {v_z : Int32} {v_wishedField : Int32} {v_isFound : Bool} {v_bestWrong : Int32} {v_bestWorn : Int32} {v_bestMany : Int32} {v_soughtBy : Int32} {v_sought : Int32} {v_soughtAt : Int32} {v_foundMany : Int32} {v_foundOrder : Int32} {v_isKept : Bool} {v_imageRows : Int32} {v_imageColumns : Int32} {v_imageFolded : Int32} {v_imageWronged : Int32} {v_bodies : Int32} {v_ran : Int32} {v_ownKind : Int32} {v_ownNumber : Int32} {v_limit : List Int32} {v_changeWas : List Int32} {v_changeIs : List Int32} {v_shapeRows : List Int32} {v_shapeColumns : List Int32} {v_row : List Int32} {v_column : List Int32} {v_below : List Int32} {v_face : List Int32} {v_worn : List Int32} {v_lastBend : List Int32} {v_tape : List Int32} {v_text : List Int32} {v_names : List Int32} {v_bends : List Int32} {v_high : List Int32} {v_to : List Int32} {v_pileSize : List Int32} {v_planLine : List Int32} {v_planWay : List Int32} {v_way1 : List Int32} {v_bestWay : List Int32} {v_order1 : List Int32} {v_placeIn : List Int32} {v_bodyKind : List Int32} {v_trace : List Int32} {v_shelf : List Int32} {v_many : List Int32} {v_items : List Int64} {v_carried : List Int64} {r : Int32} {N d : Nat} (hd : 2 ≤ d) (hf : fX9_bendOf N x1 x2 x3 x4 v_columnsOf v_limit v_row v_column v_face v_worn = some r) : mm_Ct l yX9_bendOf cX9_bendOf 14 (some .int) d D (mm_T cI cL cS cH) [.ref (a 0), .int x1, .int x2, .int x3, .int x4] (wd_X9 cI cL cS cH a v_keptMany v_done v_rowsOf v_columnsOf v_folded v_wronged v_tapeMany v_textMany v_base v_at v_ends v_fault v_opened v_bentMany v_bentWrong v_moreWorn v_planned v_allWrong v_allWorn v_z v_wishedField v_isFound v_bestWrong v_bestWorn v_bestMany v_soughtBy v_sought v_soughtAt v_foundMany v_foundOrder v_isKept v_imageRows v_imageColumns v_imageFolded v_imageWronged v_bodies v_ran v_ownKind v_ownNumber v_limit v_changeWas v_changeIs v_shapeRows v_shapeColumns v_row v_column v_below v_face v_worn v_lastBend v_tape v_text v_names v_bends v_high v_to v_pileSize v_planLine v_planWay v_way1 v_bestWay v_order1 v_placeIn v_bodyKind v_trace v_shelf v_many v_items v_carried) (wd_X9 cI cL cS cH a v_keptMany v_done v_rowsOf v_columnsOf v_folded v_wronged v_tapeMany v_textMany v_base v_at v_ends v_fault v_opened v_bentMany v_bentWrong v_moreWorn v_planned v_allWrong v_allWorn v_z v_wishedField v_isFound v_bestWrong v_bestWorn v_bestMany v_soughtBy v_sought v_soughtAt v_foundMany v_foundOrder v_isKept v_imageRows v_imageColumns v_imageFolded v_imageWronged v_bodies v_ran v_ownKind v_ownNumber v_limit v_changeWas v_changeIs v_shapeRows v_shapeColumns v_row v_column v_below v_face v_worn v_lastBend v_tape v_text v_names v_bends v_high v_to v_pileSize v_planLine v_planWay v_way1 v_bestWay v_order1 v_placeIn v_bodyKind v_trace v_shelf v_many v_items v_carried) (some (.int r)) := by
  refine mm_of (by decide) (Nat.le_of_ble_eq_true rfl) ?_
  intro p e s m args below meth c A H locs ls C0 hP hD hA hS hl
  have C0 : mm_Cx p s m args meth c RX9 cX9_bendOf 14 (some .int) D (mm_T cI cL cS cH) A := C0
  obtain ⟨hx, hb, hml, hown, hts, hr, hlocks, hK, hSt⟩ := id C0
  have hl : lv_has ls 14 [(0, .ref (a 0)), (1, .int x1), (2, .int x2), (3, .int x3), (4, .int x4)] := hl
  unfold fX9_bendOf at hf
  refine lv_iload_n hx hb dX9_bendOf_0 rfl (lv_at hl 2 rfl) ?_
  refine lv_iconst (v := 2) hx hb dX9_bendOf_1 (by decide) ?_
  obtain ⟨h_1, hf⟩ := mm_cks hf
  refine lv_idiv hx hb dX9_bendOf_2 (mm_nzs h_1) ?_
  refine lv_topi (fun y_2 ey_2 => ?_)
  have hf := mm_nms hf ey_2
  refine lv_istore (lv' := [(5, .int y_2), (0, .ref (a 0)), (1, .int x1), (2, .int x2), (3, .int x3), (4, .int x4)]) hx hb dX9_bendOf_3 hl (by decide) rfl (fun ls hl => ?_)
  refine lv_aload_n hx hb dX9_bendOf_5 rfl (lv_at hl 1 rfl) ?_
  refine lv_iload_n hx hb dX9_bendOf_6 rfl (lv_at hl 3 rfl) ?_
  obtain ⟨r_3, hc_4, hf⟩ := mm_bd1s hf
  refine mm_callVF (q0 := 0) (ci := 9) (rest := []) C0 lk_X9_201 (ctX9_otherOf (a := a) (d := d - 1) (by omega) hc_4) (by omega) rfl hl.1 rfl (mm_cat rfl) dX9_bendOf_7 hP hD hA hS rfl rfl (fun H locs hP hD hS => ?_)
  refine W.eq (g2 := F0 m 10 ls [.int r_3]) rfl ?_
  refine lv_istore (lv' := [(6, .int r_3), (5, .int y_2), (0, .ref (a 0)), (1, .int x1), (2, .int x2), (3, .int x3), (4, .int x4)]) hx hb dX9_bendOf_10 hl (by decide) rfl (fun ls hl => ?_)
  refine lv_iload hx hb dX9_bendOf_12 (lv_at hl 6 rfl) ?_
  refine lv_iconst (v := 4) hx hb dX9_bendOf_14 (by decide) ?_
  refine lv_icmp_ge (tgt := 22) hx hb dX9_bendOf_15 (by decide) (fun c_5 => ?_) (fun c_5 => ?_)
  · have hf := mm_ip hf c_5
    refine lv_iconst (v := 0) hx hb dX9_bendOf_22 (by decide) ?_
    exact tX9_bendOf_23 hd C0 hA N  _ _ _ _ _ _ _ _ _ _ _ _ _ H locs ls hf hP hD hS (lv_sub hl [2, 3, 4, 5, 6, 1, 0] rfl)
  · have hf := mm_in hf c_5
    refine lv_iconst (v := 1) hx hb dX9_bendOf_18 (by decide) ?_
    refine lv_goto (tgt := 23) hx hb dX9_bendOf_19 (by decide) ?_
    exact tX9_bendOf_23 hd C0 hA N  _ _ _ _ _ _ _ _ _ _ _ _ _ H locs ls hf hP hD hS (lv_sub hl [2, 3, 4, 5, 6, 1, 0] rfl)

