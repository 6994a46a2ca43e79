section
/-! reference: X9_beside, X9_copies, X9_halvings -/
theorem nb_dX9_beside_0 : bls_w cX9_beside [(0, [28]), (1, [155, 0, 44]), (4, [42]), (5, [28]), (6, [16, 100]), (8, [108]), (9, [182, 0, 249]), (12, [153, 0, 33]), (15, [42]), (16, [28]), (17, [16, 100]), (19, [112])] := bls_of (by decide +kernel)
theorem dX9_beside_0 : decode cX9_beside 0 = .ok (.iload_n 2, 1) := op_28 nb_dX9_beside_0.1
set_option maxRecDepth 100000 in
theorem dX9_beside_1 : decode cX9_beside 1 = .ok (.ifCond .lt 44, 3) := (op_155 nb_dX9_beside_0.2.1).trans rfl
theorem dX9_beside_4 : decode cX9_beside 4 = .ok (.aload_n 0, 1) := op_42 nb_dX9_beside_0.2.2.1
theorem dX9_beside_5 : decode cX9_beside 5 = .ok (.iload_n 2, 1) := op_28 nb_dX9_beside_0.2.2.2.1
set_option maxRecDepth 100000 in
theorem dX9_beside_6 : decode cX9_beside 6 = .ok (.bipush 100, 2) := (op_16 nb_dX9_beside_0.2.2.2.2.1).trans rfl
theorem dX9_beside_8 : decode cX9_beside 8 = .ok (.idiv, 1) := op_108 nb_dX9_beside_0.2.2.2.2.2.1
set_option maxRecDepth 100000 in
theorem dX9_beside_9 : decode cX9_beside 9 = .ok (.invokevirtual 249, 3) := (op_182 nb_dX9_beside_0.2.2.2.2.2.2.1).trans rfl
set_option maxRecDepth 100000 in
theorem dX9_beside_12 : decode cX9_beside 12 = .ok (.ifCond .eq 33, 3) := (op_153 nb_dX9_beside_0.2.2.2.2.2.2.2.1).trans rfl
theorem dX9_beside_15 : decode cX9_beside 15 = .ok (.aload_n 0, 1) := op_42 nb_dX9_beside_0.2.2.2.2.2.2.2.2.1
theorem dX9_beside_16 : decode cX9_beside 16 = .ok (.iload_n 2, 1) := op_28 nb_dX9_beside_0.2.2.2.2.2.2.2.2.2.1
set_option maxRecDepth 100000 in
theorem dX9_beside_17 : decode cX9_beside 17 = .ok (.bipush 100, 2) := (op_16 nb_dX9_beside_0.2.2.2.2.2.2.2.2.2.2.1).trans rfl
theorem dX9_beside_19 : decode cX9_beside 19 = .ok (.irem, 1) := op_112 nb_dX9_beside_0.2.2.2.2.2.2.2.2.2.2.2.1
theorem nb_dX9_beside_20 : bls_w cX9_beside [(20, [182, 0, 249]), (23, [153, 0, 22]), (26, [28]), (27, [16, 100]), (29, [108]), (30, [28]), (31, [16, 100]), (33, [112]), (34, [159, 0, 11]), (37, [42]), (38, [27]), (39, [182, 1, 39])] := bls_of (by decide +kernel)
set_option maxRecDepth 100000 in
theorem dX9_beside_20 : decode cX9_beside 20 = .ok (.invokevirtual 249, 3) := (op_182 nb_dX9_beside_20.1).trans rfl
set_option maxRecDepth 100000 in
theorem dX9_beside_23 : decode cX9_beside 23 = .ok (.ifCond .eq 22, 3) := (op_153 nb_dX9_beside_20.2.1).trans rfl
theorem dX9_beside_26 : decode cX9_beside 26 = .ok (.iload_n 2, 1) := op_28 nb_dX9_beside_20.2.2.1
set_option maxRecDepth 100000 in
theorem dX9_beside_27 : decode cX9_beside 27 = .ok (.bipush 100, 2) := (op_16 nb_dX9_beside_20.2.2.2.1).trans rfl
theorem dX9_beside_29 : decode cX9_beside 29 = .ok (.idiv, 1) := op_108 nb_dX9_beside_20.2.2.2.2.1
theorem dX9_beside_30 : decode cX9_beside 30 = .ok (.iload_n 2, 1) := op_28 nb_dX9_beside_20.2.2.2.2.2.1
set_option maxRecDepth 100000 in
theorem dX9_beside_31 : decode cX9_beside 31 = .ok (.bipush 100, 2) := (op_16 nb_dX9_beside_20.2.2.2.2.2.2.1).trans rfl
theorem dX9_beside_33 : decode cX9_beside 33 = .ok (.irem, 1) := op_112 nb_dX9_beside_20.2.2.2.2.2.2.2.1
set_option maxRecDepth 100000 in
theorem dX9_beside_34 : decode cX9_beside 34 = .ok (.if_icmp .eq 11, 3) := (op_159 nb_dX9_beside_20.2.2.2.2.2.2.2.2.1).trans rfl
theorem dX9_beside_37 : decode cX9_beside 37 = .ok (.aload_n 0, 1) := op_42 nb_dX9_beside_20.2.2.2.2.2.2.2.2.2.1
theorem dX9_beside_38 : decode cX9_beside 38 = .ok (.iload_n 1, 1) := op_27 nb_dX9_beside_20.2.2.2.2.2.2.2.2.2.2.1
set_option maxRecDepth 100000 in
theorem dX9_beside_39 : decode cX9_beside 39 = .ok (.invokevirtual 295, 3) := (op_182 nb_dX9_beside_20.2.2.2.2.2.2.2.2.2.2.2.1).trans rfl
theorem nb_dX9_beside_42 : bls_w cX9_beside [(42, [154, 0, 5]), (45, [2]), (46, [172]), (47, [42]), (48, [180, 0, 25]), (51, [16, 32]), (53, [28]), (54, [16, 100]), (56, [108]), (57, [96]), (58, [46]), (59, [42])] := bls_of (by decide +kernel)
set_option maxRecDepth 100000 in
theorem dX9_beside_42 : decode cX9_beside 42 = .ok (.ifCond .ne 5, 3) := (op_154 nb_dX9_beside_42.1).trans rfl
theorem dX9_beside_45 : decode cX9_beside 45 = .ok (.iconst (-1), 1) := op_2 nb_dX9_beside_42.2.1
theorem dX9_beside_46 : decode cX9_beside 46 = .ok (.ireturn, 1) := op_172 nb_dX9_beside_42.2.2.1
theorem dX9_beside_47 : decode cX9_beside 47 = .ok (.aload_n 0, 1) := op_42 nb_dX9_beside_42.2.2.2.1
set_option maxRecDepth 100000 in
theorem dX9_beside_48 : decode cX9_beside 48 = .ok (.getfield 25, 3) := (op_180 nb_dX9_beside_42.2.2.2.2.1).trans rfl
set_option maxRecDepth 100000 in
theorem dX9_beside_51 : decode cX9_beside 51 = .ok (.bipush 32, 2) := (op_16 nb_dX9_beside_42.2.2.2.2.2.1).trans rfl
theorem dX9_beside_53 : decode cX9_beside 53 = .ok (.iload_n 2, 1) := op_28 nb_dX9_beside_42.2.2.2.2.2.2.1
set_option maxRecDepth 100000 in
theorem dX9_beside_54 : decode cX9_beside 54 = .ok (.bipush 100, 2) := (op_16 nb_dX9_beside_42.2.2.2.2.2.2.2.1).trans rfl
theorem dX9_beside_56 : decode cX9_beside 56 = .ok (.idiv, 1) := op_108 nb_dX9_beside_42.2.2.2.2.2.2.2.2.1
theorem dX9_beside_57 : decode cX9_beside 57 = .ok (.iadd, 1) := op_96 nb_dX9_beside_42.2.2.2.2.2.2.2.2.2.1
theorem dX9_beside_58 : decode cX9_beside 58 = .ok (.iaload, 1) := op_46 nb_dX9_beside_42.2.2.2.2.2.2.2.2.2.2.1
theorem dX9_beside_59 : decode cX9_beside 59 = .ok (.aload_n 0, 1) := op_42 nb_dX9_beside_42.2.2.2.2.2.2.2.2.2.2.2.1
theorem nb_dX9_beside_60 : bls_w cX9_beside [(60, [180, 0, 25]), (63, [16, 32]), (65, [28]), (66, [16, 100]), (68, [112]), (69, [96]), (70, [46]), (71, [100]), (72, [62]), (73, [42]), (74, [180, 0, 28]), (77, [16, 32])] := bls_of (by decide +kernel)
set_option maxRecDepth 100000 in
theorem dX9_beside_60 : decode cX9_beside 60 = .ok (.getfield 25, 3) := (op_180 nb_dX9_beside_60.1).trans rfl
set_option maxRecDepth 100000 in
theorem dX9_beside_63 : decode cX9_beside 63 = .ok (.bipush 32, 2) := (op_16 nb_dX9_beside_60.2.1).trans rfl
theorem dX9_beside_65 : decode cX9_beside 65 = .ok (.iload_n 2, 1) := op_28 nb_dX9_beside_60.2.2.1
set_option maxRecDepth 100000 in
theorem dX9_beside_66 : decode cX9_beside 66 = .ok (.bipush 100, 2) := (op_16 nb_dX9_beside_60.2.2.2.1).trans rfl
theorem dX9_beside_68 : decode cX9_beside 68 = .ok (.irem, 1) := op_112 nb_dX9_beside_60.2.2.2.2.1
theorem dX9_beside_69 : decode cX9_beside 69 = .ok (.iadd, 1) := op_96 nb_dX9_beside_60.2.2.2.2.2.1
theorem dX9_beside_70 : decode cX9_beside 70 = .ok (.iaload, 1) := op_46 nb_dX9_beside_60.2.2.2.2.2.2.1
theorem dX9_beside_71 : decode cX9_beside 71 = .ok (.isub, 1) := op_100 nb_dX9_beside_60.2.2.2.2.2.2.2.1
theorem dX9_beside_72 : decode cX9_beside 72 = .ok (.istore_n 3, 1) := op_62 nb_dX9_beside_60.2.2.2.2.2.2.2.2.1
theorem dX9_beside_73 : decode cX9_beside 73 = .ok (.aload_n 0, 1) := op_42 nb_dX9_beside_60.2.2.2.2.2.2.2.2.2.1
set_option maxRecDepth 100000 in
theorem dX9_beside_74 : decode cX9_beside 74 = .ok (.getfield 28, 3) := (op_180 nb_dX9_beside_60.2.2.2.2.2.2.2.2.2.2.1).trans rfl
set_option maxRecDepth 100000 in
theorem dX9_beside_77 : decode cX9_beside 77 = .ok (.bipush 32, 2) := (op_16 nb_dX9_beside_60.2.2.2.2.2.2.2.2.2.2.2.1).trans rfl
theorem nb_dX9_beside_79 : bls_w cX9_beside [(79, [28]), (80, [16, 100]), (82, [108]), (83, [96]), (84, [46]), (85, [42]), (86, [180, 0, 28]), (89, [16, 32]), (91, [28]), (92, [16, 100]), (94, [112]), (95, [96])] := bls_of (by decide +kernel)
theorem dX9_beside_79 : decode cX9_beside 79 = .ok (.iload_n 2, 1) := op_28 nb_dX9_beside_79.1
set_option maxRecDepth 100000 in
theorem dX9_beside_80 : decode cX9_beside 80 = .ok (.bipush 100, 2) := (op_16 nb_dX9_beside_79.2.1).trans rfl
theorem dX9_beside_82 : decode cX9_beside 82 = .ok (.idiv, 1) := op_108 nb_dX9_beside_79.2.2.1
theorem dX9_beside_83 : decode cX9_beside 83 = .ok (.iadd, 1) := op_96 nb_dX9_beside_79.2.2.2.1
theorem dX9_beside_84 : decode cX9_beside 84 = .ok (.iaload, 1) := op_46 nb_dX9_beside_79.2.2.2.2.1
theorem dX9_beside_85 : decode cX9_beside 85 = .ok (.aload_n 0, 1) := op_42 nb_dX9_beside_79.2.2.2.2.2.1
set_option maxRecDepth 100000 in
theorem dX9_beside_86 : decode cX9_beside 86 = .ok (.getfield 28, 3) := (op_180 nb_dX9_beside_79.2.2.2.2.2.2.1).trans rfl
set_option maxRecDepth 100000 in
theorem dX9_beside_89 : decode cX9_beside 89 = .ok (.bipush 32, 2) := (op_16 nb_dX9_beside_79.2.2.2.2.2.2.2.1).trans rfl
theorem dX9_beside_91 : decode cX9_beside 91 = .ok (.iload_n 2, 1) := op_28 nb_dX9_beside_79.2.2.2.2.2.2.2.2.1
set_option maxRecDepth 100000 in
theorem dX9_beside_92 : decode cX9_beside 92 = .ok (.bipush 100, 2) := (op_16 nb_dX9_beside_79.2.2.2.2.2.2.2.2.2.1).trans rfl
theorem dX9_beside_94 : decode cX9_beside 94 = .ok (.irem, 1) := op_112 nb_dX9_beside_79.2.2.2.2.2.2.2.2.2.2.1
theorem dX9_beside_95 : decode cX9_beside 95 = .ok (.iadd, 1) := op_96 nb_dX9_beside_79.2.2.2.2.2.2.2.2.2.2.2.1
theorem nb_dX9_beside_96 : bls_w cX9_beside [(96, [46]), (97, [100]), (98, [54, 4]), (100, [29]), (101, [29]), (102, [104]), (103, [21, 4]), (105, [21, 4]), (107, [104]), (108, [96]), (109, [4]), (110, [160, 0, 31])] := bls_of (by decide +kernel)
theorem dX9_beside_96 : decode cX9_beside 96 = .ok (.iaload, 1) := op_46 nb_dX9_beside_96.1
theorem dX9_beside_97 : decode cX9_beside 97 = .ok (.isub, 1) := op_100 nb_dX9_beside_96.2.1
set_option maxRecDepth 100000 in
theorem dX9_beside_98 : decode cX9_beside 98 = .ok (.istore 4, 2) := (op_54 nb_dX9_beside_96.2.2.1).trans rfl
theorem dX9_beside_100 : decode cX9_beside 100 = .ok (.iload_n 3, 1) := op_29 nb_dX9_beside_96.2.2.2.1
theorem dX9_beside_101 : decode cX9_beside 101 = .ok (.iload_n 3, 1) := op_29 nb_dX9_beside_96.2.2.2.2.1
theorem dX9_beside_102 : decode cX9_beside 102 = .ok (.imul, 1) := op_104 nb_dX9_beside_96.2.2.2.2.2.1
set_option maxRecDepth 100000 in
theorem dX9_beside_103 : decode cX9_beside 103 = .ok (.iload 4, 2) := (op_21 nb_dX9_beside_96.2.2.2.2.2.2.1).trans rfl
set_option maxRecDepth 100000 in
theorem dX9_beside_105 : decode cX9_beside 105 = .ok (.iload 4, 2) := (op_21 nb_dX9_beside_96.2.2.2.2.2.2.2.1).trans rfl
theorem dX9_beside_107 : decode cX9_beside 107 = .ok (.imul, 1) := op_104 nb_dX9_beside_96.2.2.2.2.2.2.2.2.1
theorem dX9_beside_108 : decode cX9_beside 108 = .ok (.iadd, 1) := op_96 nb_dX9_beside_96.2.2.2.2.2.2.2.2.2.1
theorem dX9_beside_109 : decode cX9_beside 109 = .ok (.iconst 1, 1) := op_4 nb_dX9_beside_96.2.2.2.2.2.2.2.2.2.2.1
set_option maxRecDepth 100000 in
theorem dX9_beside_110 : decode cX9_beside 110 = .ok (.if_icmp .ne 31, 3) := (op_160 nb_dX9_beside_96.2.2.2.2.2.2.2.2.2.2.2.1).trans rfl
theorem nb_dX9_beside_113 : bls_w cX9_beside [(113, [42]), (114, [4]), (115, [28]), (116, [16, 100]), (118, [108]), (119, [182, 1, 45]), (122, [153, 0, 19]), (125, [42]), (126, [4]), (127, [28]), (128, [16, 100]), (130, [112])] := bls_of (by decide +kernel)
theorem dX9_beside_113 : decode cX9_beside 113 = .ok (.aload_n 0, 1) := op_42 nb_dX9_beside_113.1
theorem dX9_beside_114 : decode cX9_beside 114 = .ok (.iconst 1, 1) := op_4 nb_dX9_beside_113.2.1
theorem dX9_beside_115 : decode cX9_beside 115 = .ok (.iload_n 2, 1) := op_28 nb_dX9_beside_113.2.2.1
set_option maxRecDepth 100000 in
theorem dX9_beside_116 : decode cX9_beside 116 = .ok (.bipush 100, 2) := (op_16 nb_dX9_beside_113.2.2.2.1).trans rfl
theorem dX9_beside_118 : decode cX9_beside 118 = .ok (.idiv, 1) := op_108 nb_dX9_beside_113.2.2.2.2.1
set_option maxRecDepth 100000 in
theorem dX9_beside_119 : decode cX9_beside 119 = .ok (.invokevirtual 301, 3) := (op_182 nb_dX9_beside_113.2.2.2.2.2.1).trans rfl
set_option maxRecDepth 100000 in
theorem dX9_beside_122 : decode cX9_beside 122 = .ok (.ifCond .eq 19, 3) := (op_153 nb_dX9_beside_113.2.2.2.2.2.2.1).trans rfl
theorem dX9_beside_125 : decode cX9_beside 125 = .ok (.aload_n 0, 1) := op_42 nb_dX9_beside_113.2.2.2.2.2.2.2.1
theorem dX9_beside_126 : decode cX9_beside 126 = .ok (.iconst 1, 1) := op_4 nb_dX9_beside_113.2.2.2.2.2.2.2.2.1
theorem dX9_beside_127 : decode cX9_beside 127 = .ok (.iload_n 2, 1) := op_28 nb_dX9_beside_113.2.2.2.2.2.2.2.2.2.1
set_option maxRecDepth 100000 in
theorem dX9_beside_128 : decode cX9_beside 128 = .ok (.bipush 100, 2) := (op_16 nb_dX9_beside_113.2.2.2.2.2.2.2.2.2.2.1).trans rfl
theorem dX9_beside_130 : decode cX9_beside 130 = .ok (.irem, 1) := op_112 nb_dX9_beside_113.2.2.2.2.2.2.2.2.2.2.2.1
theorem nb_dX9_beside_131 : bls_w cX9_beside [(131, [182, 1, 45]), (134, [153, 0, 7]), (137, [4]), (138, [167, 0, 4]), (141, [3]), (142, [172])] := bls_of (by decide +kernel)
set_option maxRecDepth 100000 in
theorem dX9_beside_131 : decode cX9_beside 131 = .ok (.invokevirtual 301, 3) := (op_182 nb_dX9_beside_131.1).trans rfl
set_option maxRecDepth 100000 in
theorem dX9_beside_134 : decode cX9_beside 134 = .ok (.ifCond .eq 7, 3) := (op_153 nb_dX9_beside_131.2.1).trans rfl
theorem dX9_beside_137 : decode cX9_beside 137 = .ok (.iconst 1, 1) := op_4 nb_dX9_beside_131.2.2.1
set_option maxRecDepth 100000 in
theorem dX9_beside_138 : decode cX9_beside 138 = .ok (.goto 4, 3) := (op_167 nb_dX9_beside_131.2.2.2.1).trans rfl
theorem dX9_beside_141 : decode cX9_beside 141 = .ok (.iconst 0, 1) := op_3 nb_dX9_beside_131.2.2.2.2.1
theorem dX9_beside_142 : decode cX9_beside 142 = .ok (.ireturn, 1) := op_172 nb_dX9_beside_131.2.2.2.2.2.1
def fX9_beside (N : Nat) (x1 : Int32) (x2 : Int32) (v_rowsOf : Int32) (v_columnsOf : Int32) (v_textMany : Int32) (v_base : Int32) (v_at : Int32) (v_ends : Int32) (v_fault : Int32) (v_opened : Int32) (v_bentMany : Int32) (v_bentWrong : Int32) (v_moreWorn : Int32) (v_planned : Int32) (v_allWrong : Int32) (v_allWorn : Int32) (v_z : Int32) (v_limit : List Int32) (v_shapeRows : List Int32) (v_shapeColumns : List Int32) (v_row : List Int32) (v_column : List Int32) (v_below : List Int32) (v_face : List Int32) (v_worn : List Int32) (v_lastBend : List Int32) (v_tape : List Int32) (v_text : List Int32) (v_names : List Int32) (v_bends : List Int32) (v_high : List Int32) (v_to : List Int32) (v_pileSize : List Int32) (v_planLine : List Int32) (v_planWay : List Int32) : Option (Int32 × Int32 × Int32 × Int32 × Int32 × Int32 × Int32 × Int32 × Int32 × Int32 × Int32 × Int32 × List Int32 × List Int32 × List Int32 × List Int32 × List Int32 × List Int32 × List Int32 × List Int32 × List Int32 × List Int32 × List Int32 × List Int32 × List Int32) :=
    if x2 < 0 then
    (some ((-1 : Int32), v_base, v_at, v_ends, v_fault, v_opened, v_bentMany, v_bentWrong, v_moreWorn, v_allWrong, v_allWorn, v_z, v_shapeRows, v_shapeColumns, v_row, v_column, v_below, v_face, v_worn, v_lastBend, v_names, v_bends, v_high, v_to, v_pileSize))
    else (mm_ck (mm_nz (100 : Int32)) (mm_bd1 (fX9_isField N (x2 / (100 : Int32)) v_rowsOf v_columnsOf) (fun (r_3 : Bool) =>
    if r_3 = false then
    (some ((-1 : Int32), v_base, v_at, v_ends, v_fault, v_opened, v_bentMany, v_bentWrong, v_moreWorn, v_allWrong, v_allWorn, v_z, v_shapeRows, v_shapeColumns, v_row, v_column, v_below, v_face, v_worn, v_lastBend, v_names, v_bends, v_high, v_to, v_pileSize))
    else (mm_ck (mm_nz (100 : Int32)) (mm_bd1 (fX9_isField N (mm_rem x2 (100 : Int32)) v_rowsOf v_columnsOf) (fun (r_7 : Bool) =>
    if r_7 = false then
    (some ((-1 : Int32), v_base, v_at, v_ends, v_fault, v_opened, v_bentMany, v_bentWrong, v_moreWorn, v_allWrong, v_allWorn, v_z, v_shapeRows, v_shapeColumns, v_row, v_column, v_below, v_face, v_worn, v_lastBend, v_names, v_bends, v_high, v_to, v_pileSize))
    else (mm_ck (mm_nz (100 : Int32)) (mm_ck (mm_nz (100 : Int32)) (if (x2 / (100 : Int32)) = (mm_rem x2 (100 : Int32)) then
    (some ((-1 : Int32), v_base, v_at, v_ends, v_fault, v_opened, v_bentMany, v_bentWrong, v_moreWorn, v_allWrong, v_allWorn, v_z, v_shapeRows, v_shapeColumns, v_row, v_column, v_below, v_face, v_worn, v_lastBend, v_names, v_bends, v_high, v_to, v_pileSize))
    else (mm_bd25 (fX9_isBehind N x1 v_rowsOf v_columnsOf v_textMany v_base v_at v_ends v_fault v_opened v_bentMany v_bentWrong v_moreWorn v_planned v_allWrong v_allWorn v_z v_limit v_shapeRows v_shapeColumns v_row v_column v_below v_face v_worn v_lastBend v_tape v_text v_names v_bends v_high v_to v_pileSize v_planLine v_planWay) (fun (r_13 : Bool) (w_14 : Int32) (w_15 : Int32) (w_16 : Int32) (w_17 : Int32) (w_18 : Int32) (w_19 : Int32) (w_20 : Int32) (w_21 : Int32) (w_22 : Int32) (w_23 : Int32) (w_24 : Int32) (w_25 : List Int32) (w_26 : List Int32) (w_27 : List Int32) (w_28 : List Int32) (w_29 : List Int32) (w_30 : List Int32) (w_31 : List Int32) (w_32 : List Int32) (w_33 : List Int32) (w_34 : List Int32) (w_35 : List Int32) (w_36 : List Int32) (w_37 : List Int32) =>
    if r_13 = false then
    (some ((-1 : Int32), w_14, w_15, w_16, w_17, w_18, w_19, w_20, w_21, w_22, w_23, w_24, w_25, w_26, w_27, w_28, w_29, w_30, w_31, w_32, w_33, w_34, w_35, w_36, w_37))
    else (mm_ck (mm_nz (100 : Int32)) (mm_ck (mm_inb ((32 : Int32) + (x2 / (100 : Int32))) w_27.length) (mm_ck (mm_nz (100 : Int32)) (mm_ck (mm_inb ((32 : Int32) + (mm_rem x2 (100 : Int32))) w_27.length) (mm_nm (((mm_ig w_27 ((32 : Int32) + (x2 / (100 : Int32)))) - (mm_ig w_27 ((32 : Int32) + (mm_rem x2 (100 : Int32)))))) (fun (y_44 : Int32) =>
    mm_ck (mm_nz (100 : Int32)) (mm_ck (mm_inb ((32 : Int32) + (x2 / (100 : Int32))) w_28.length) (mm_ck (mm_nz (100 : Int32)) (mm_ck (mm_inb ((32 : Int32) + (mm_rem x2 (100 : Int32))) w_28.length) (mm_nm (((mm_ig w_28 ((32 : Int32) + (x2 / (100 : Int32)))) - (mm_ig w_28 ((32 : Int32) + (mm_rem x2 (100 : Int32)))))) (fun (y_49 : Int32) =>
    if ((y_44 * y_44) + (y_49 * y_49)) = (1 : Int32) then
    (mm_ck (mm_nz (100 : Int32)) (mm_bd1 (fX9_isOnTop N (1 : Int32) (x2 / (100 : Int32)) v_rowsOf v_columnsOf w_27 w_28 w_29) (fun (r_52 : Bool) =>
    if r_52 = false then
    (some ((0 : Int32), w_14, w_15, w_16, w_17, w_18, w_19, w_20, w_21, w_22, w_23, w_24, w_25, w_26, w_27, w_28, w_29, w_30, w_31, w_32, w_33, w_34, w_35, w_36, w_37))
    else (mm_ck (mm_nz (100 : Int32)) (mm_bd1 (fX9_isOnTop N (1 : Int32) (mm_rem x2 (100 : Int32)) v_rowsOf v_columnsOf w_27 w_28 w_29) (fun (r_56 : Bool) =>
    if r_56 = false then
    (some ((0 : Int32), w_14, w_15, w_16, w_17, w_18, w_19, w_20, w_21, w_22, w_23, w_24, w_25, w_26, w_27, w_28, w_29, w_30, w_31, w_32, w_33, w_34, w_35, w_36, w_37))
    else (some ((1 : Int32), w_14, w_15, w_16, w_17, w_18, w_19, w_20, w_21, w_22, w_23, w_24, w_25, w_26, w_27, w_28, w_29, w_30, w_31, w_32, w_33, w_34, w_35, w_36, w_37))))))))
    else (some ((0 : Int32), w_14, w_15, w_16, w_17, w_18, w_19, w_20, w_21, w_22, w_23, w_24, w_25, w_26, w_27, w_28, w_29, w_30, w_31, w_32, w_33, w_34, w_35, w_36, w_37))))))))))))))))))))))))

set_option maxHeartbeats 4000000 in
set_option maxRecDepth 100000 in
theorem ctX9_beside {l : Launch} {D : va_G} {cI cL cS cH : ClassId} {a : Nat → Nat} {x1 : Int32} {x2 : Int32} {v_keptMany : Int32} {v_done : Int32} {v_rowsOf : Int32} {v_columnsOf : Int32} {v_folded : Int32} {v_wronged : Int32} {v_tapeMany : Int32} {v_textMany : Int32} {v_base : Int32} {v_at : Int32} {v_ends : Int32} {v_fault : Int32} {v_opened : Int32} {v_bentMany : Int32} {v_bentWrong : Int32} {v_moreWorn : Int32} {v_planned : Int32} {v_allWrong : Int32} {v_allWorn : Int32} {v_z : Int32} {v_wishedField : Int32} {v_isFound : Bool} {v_bestWrong : Int32} {v_bestWorn : Int32} {v_bestMany : Int32} {v_soughtBy : Int32} {v_sought : Int32} {v_soughtAt : Int32} {v_foundMany : Int32} {v_foundOrder : Int32} {v_isKept : Bool} {v_imageRows : Int32} {v_imageColumns : Int32} {v_imageFolded : Int32} {v_imageWronged : Int32} {v_bodies : Int32} {v_ran : Int32} {v_ownKind : Int32} {v_ownNumber : Int32} {v_limit : List Int32} {v_changeWas : List Int32} {v_changeIs : List Int32} {v_shapeRows : List Int32} {v_shapeColumns : List Int32} {v_row : List Int32} {v_column : List Int32} {v_below : List Int32} {v_face : List Int32} {v_worn : List Int32} {v_lastBend : List Int32} {v_tape : List Int32} {v_text : List Int32} {v_names : List Int32} {v_bends : List Int32} {v_high : List Int32} {v_to : List Int32} {v_pileSize : List Int32} {v_planLine : List Int32} {v_planWay : List Int32} {v_way1 : List Int32} {v_bestWay : List Int32} {v_order1 : List Int32} {v_placeIn : List Int32} {v_bodyKind : List Int32} {v_trace : List Int32} {v_shelf : List Int32} {v_many : List Int32} {v_items : List Int64} {v_carried : List Int64} {r : Int32} {w_base : Int32} {w_at : Int32} {w_ends : Int32} {w_fault : Int32} {w_opened : Int32} {w_bentMany : Int32} {w_bentWrong : Int32} {w_moreWorn : Int32} {w_allWrong : Int32} {w_allWorn : Int32} {w_z : Int32} {w_shapeRows : List Int32} {w_shapeColumns : List Int32} {w_row : List Int32} {w_column : List Int32} {w_below : List Int32} {w_face : List Int32} {w_worn : List Int32} {w_lastBend : List Int32} {w_names : List Int32} {w_bends : List Int32} {w_high : List Int32} {w_to : List Int32} {w_pileSize : List Int32} {N d : Nat} (hd : 62 ≤ d) (hf : fX9_beside N x1 x2 v_rowsOf v_columnsOf v_textMany v_base v_at v_ends v_fault v_opened v_bentMany v_bentWrong v_moreWorn v_planned v_allWrong v_allWorn v_z v_limit v_shapeRows v_shapeColumns v_row v_column v_below v_face v_worn v_lastBend v_tape v_text v_names v_bends v_high v_to v_pileSize v_planLine v_planWay = some (r, w_base, w_at, w_ends, w_fault, w_opened, w_bentMany, w_bentWrong, w_moreWorn, w_allWrong, w_allWorn, w_z, w_shapeRows, w_shapeColumns, w_row, w_column, w_below, w_face, w_worn, w_lastBend, w_names, w_bends, w_high, w_to, w_pileSize)) : mm_Ct l yX9_beside cX9_beside 5 (some .int) d D (mm_T cI cL cS cH) [.ref (a 0), .int x1, .int x2] (wd_X9 cI cL cS cH a v_keptMany v_done v_rowsOf v_columnsOf v_folded v_wronged v_tapeMany v_textMany v_base v_at v_ends v_fault v_opened v_bentMany v_bentWrong v_moreWorn v_planned v_allWrong v_allWorn v_z v_wishedField v_isFound v_bestWrong v_bestWorn v_bestMany v_soughtBy v_sought v_soughtAt v_foundMany v_foundOrder v_isKept v_imageRows v_imageColumns v_imageFolded v_imageWronged v_bodies v_ran v_ownKind v_ownNumber v_limit v_changeWas v_changeIs v_shapeRows v_shapeColumns v_row v_column v_below v_face v_worn v_lastBend v_tape v_text v_names v_bends v_high v_to v_pileSize v_planLine v_planWay v_way1 v_bestWay v_order1 v_placeIn v_bodyKind v_trace v_shelf v_many v_items v_carried) (wd_X9 cI cL cS cH a v_keptMany v_done v_rowsOf v_columnsOf v_folded v_wronged v_tapeMany v_textMany w_base w_at w_ends w_fault w_opened w_bentMany w_bentWrong w_moreWorn v_planned w_allWrong w_allWorn w_z v_wishedField v_isFound v_bestWrong v_bestWorn v_bestMany v_soughtBy v_sought v_soughtAt v_foundMany v_foundOrder v_isKept v_imageRows v_imageColumns v_imageFolded v_imageWronged v_bodies v_ran v_ownKind v_ownNumber v_limit v_changeWas v_changeIs w_shapeRows w_shapeColumns w_row w_column w_below w_face w_worn w_lastBend v_tape v_text w_names w_bends w_high w_to w_pileSize v_planLine v_planWay v_way1 v_bestWay v_order1 v_placeIn v_bodyKind v_trace v_shelf v_many v_items v_carried) (some (.int r)) := by
  refine mm_of (by decide) (Nat.le_of_ble_eq_true rfl) ?_
  intro p e s m args below meth c A H locs ls C0 hP hD hA hS hl
  have C0 : mm_Cx p s m args meth c RX9 cX9_beside 5 (some .int) D (mm_T cI cL cS cH) A := C0
  obtain ⟨hx, hb, hml, hown, hts, hr, hlocks, hK, hSt⟩ := id C0
  have hl : lv_has ls 5 [(0, .ref (a 0)), (1, .int x1), (2, .int x2)] := hl
  unfold fX9_beside at hf
  refine lv_iload_n hx hb dX9_beside_0 rfl (lv_at hl 2 rfl) ?_
  refine lv_if_lt (tgt := 45) hx hb dX9_beside_1 (by decide) (fun c_1 => ?_) (fun c_1 => ?_)
  · have hf := mm_ip hf c_1
    refine lv_iconst (v := -1) hx hb dX9_beside_45 (by decide) ?_
    apply mm_sub25 hf
    exact mm_iret C0 hP hD hS dX9_beside_46
  · have hf := mm_in hf c_1
    refine lv_aload_n hx hb dX9_beside_4 rfl (lv_at hl 0 rfl) ?_
    refine lv_iload_n hx hb dX9_beside_5 rfl (lv_at hl 2 rfl) ?_
    refine lv_bipush (v := 100) hx hb dX9_beside_6 (by decide) ?_
    obtain ⟨h_2, hf⟩ := mm_cks hf
    refine lv_idiv hx hb dX9_beside_8 (mm_nzs h_2) ?_
    obtain ⟨r_3, hc_4, hf⟩ := mm_bd1s hf
    refine mm_callVF (q0 := 0) (ci := 9) (rest := []) C0 lk_X9_249 (ctX9_isField (a := a) (d := d - 1) (by omega) hc_4) (by omega) rfl hl.1 rfl (mm_cat rfl) dX9_beside_9 hP hD hA hS rfl rfl (fun H locs hP hD hS => ?_)
    refine W.eq (g2 := F0 m 12 ls [.int (mm_b r_3)]) rfl ?_
    refine lv_if_eq (tgt := 45) hx hb dX9_beside_12 (by decide) (fun c_5 => ?_) (fun c_5 => ?_)
    · have hf := mm_ip hf (mm_b0 c_5)
      refine lv_iconst (v := -1) hx hb dX9_beside_45 (by decide) ?_
      apply mm_sub25 hf
      exact mm_iret C0 hP hD hS dX9_beside_46
    · have hf := mm_in hf (mm_b1 c_5)
      refine lv_aload_n hx hb dX9_beside_15 rfl (lv_at hl 0 rfl) ?_
      refine lv_iload_n hx hb dX9_beside_16 rfl (lv_at hl 2 rfl) ?_
      refine lv_bipush (v := 100) hx hb dX9_beside_17 (by decide) ?_
      obtain ⟨h_6, hf⟩ := mm_cks hf
      refine lv_irem hx hb dX9_beside_19 (mm_nzs h_6) ?_
      obtain ⟨r_7, hc_8, hf⟩ := mm_bd1s hf
      refine mm_callVF (q0 := 0) (ci := 9) (rest := []) C0 lk_X9_249 (ctX9_isField (a := a) (d := d - 1) (by omega) hc_8) (by omega) rfl hl.1 rfl (mm_cat rfl) dX9_beside_20 hP hD hA hS rfl rfl (fun H locs hP hD hS => ?_)
      refine W.eq (g2 := F0 m 23 ls [.int (mm_b r_7)]) rfl ?_
      refine lv_if_eq (tgt := 45) hx hb dX9_beside_23 (by decide) (fun c_9 => ?_) (fun c_9 => ?_)
      · have hf := mm_ip hf (mm_b0 c_9)
        refine lv_iconst (v := -1) hx hb dX9_beside_45 (by decide) ?_
        apply mm_sub25 hf
        exact mm_iret C0 hP hD hS dX9_beside_46
      · have hf := mm_in hf (mm_b1 c_9)
        refine lv_iload_n hx hb dX9_beside_26 rfl (lv_at hl 2 rfl) ?_
        refine lv_bipush (v := 100) hx hb dX9_beside_27 (by decide) ?_
        obtain ⟨h_10, hf⟩ := mm_cks hf
        refine lv_idiv hx hb dX9_beside_29 (mm_nzs h_10) ?_
        refine lv_iload_n hx hb dX9_beside_30 rfl (lv_at hl 2 rfl) ?_
        refine lv_bipush (v := 100) hx hb dX9_beside_31 (by decide) ?_
        obtain ⟨h_11, hf⟩ := mm_cks hf
        refine lv_irem hx hb dX9_beside_33 (mm_nzs h_11) ?_
        refine lv_icmp_eq (tgt := 45) hx hb dX9_beside_34 (by decide) (fun c_12 => ?_) (fun c_12 => ?_)
        · have hf := mm_ip hf c_12
          refine lv_iconst (v := -1) hx hb dX9_beside_45 (by decide) ?_
          apply mm_sub25 hf
          exact mm_iret C0 hP hD hS dX9_beside_46
        · have hf := mm_in hf c_12
          refine lv_aload_n hx hb dX9_beside_37 rfl (lv_at hl 0 rfl) ?_
          refine lv_iload_n hx hb dX9_beside_38 rfl (lv_at hl 1 rfl) ?_
          refine mm_ct25 hf (fun r_13 w_14 w_15 w_16 w_17 w_18 w_19 w_20 w_21 w_22 w_23 w_24 w_25 w_26 w_27 w_28 w_29 w_30 w_31 w_32 w_33 w_34 w_35 w_36 w_37 hc_38 hf => ?_)
          refine mm_callVF (q0 := 0) (ci := 9) (rest := []) C0 lk_X9_295 (ctX9_isBehind (a := a) (d := d - 1) (by omega) hc_38) (by omega) rfl hl.1 rfl (mm_cat rfl) dX9_beside_39 hP hD hA hS rfl rfl (fun H locs hP hD hS => ?_)
          refine W.eq (g2 := F0 m 42 ls [.int (mm_b r_13)]) rfl ?_
          refine lv_if_ne (tgt := 47) hx hb dX9_beside_42 (by decide) (fun c_39 => ?_) (fun c_39 => ?_)
          · have hf := mm_in hf (mm_b1 c_39)
            refine lv_aload_n hx hb dX9_beside_47 rfl (lv_at hl 0 rfl) ?_
            refine mm_get C0 hP iw_X9 0 rfl rfl 9 (by decide) fl_X9_25 rfl dX9_beside_48 ?_
            refine lv_bipush (v := 32) hx hb dX9_beside_51 (by decide) ?_
            refine lv_iload_n hx hb dX9_beside_53 rfl (lv_at hl 2 rfl) ?_
            refine lv_bipush (v := 100) hx hb dX9_beside_54 (by decide) ?_
            obtain ⟨h_40, hf⟩ := mm_cks hf
            refine lv_idiv hx hb dX9_beside_56 (mm_nzs h_40) ?_
            refine lv_iadd hx hb dX9_beside_57 ?_
            obtain ⟨h_41, hf⟩ := mm_cks hf
            refine mm_iald C0 hP 6 rfl h_41 dX9_beside_58 ?_
            refine lv_aload_n hx hb dX9_beside_59 rfl (lv_at hl 0 rfl) ?_
            refine mm_get C0 hP iw_X9 0 rfl rfl 9 (by decide) fl_X9_25 rfl dX9_beside_60 ?_
            refine lv_bipush (v := 32) hx hb dX9_beside_63 (by decide) ?_
            refine lv_iload_n hx hb dX9_beside_65 rfl (lv_at hl 2 rfl) ?_
            refine lv_bipush (v := 100) hx hb dX9_beside_66 (by decide) ?_
            obtain ⟨h_42, hf⟩ := mm_cks hf
            refine lv_irem hx hb dX9_beside_68 (mm_nzs h_42) ?_
            refine lv_iadd hx hb dX9_beside_69 ?_
            obtain ⟨h_43, hf⟩ := mm_cks hf
            refine mm_iald C0 hP 6 rfl h_43 dX9_beside_70 ?_
            refine lv_isub hx hb dX9_beside_71 ?_
            refine lv_topi (fun y_44 ey_44 => ?_)
            have hf := mm_nms hf ey_44
            refine lv_istore_n (lv' := [(3, .int y_44), (0, .ref (a 0)), (1, .int x1), (2, .int x2)]) hx hb dX9_beside_72 rfl hl (by decide) rfl (fun ls hl => ?_)
            refine lv_aload_n hx hb dX9_beside_73 rfl (lv_at hl 1 rfl) ?_
            refine mm_get C0 hP iw_X9 0 rfl rfl 10 (by decide) fl_X9_28 rfl dX9_beside_74 ?_
            refine lv_bipush (v := 32) hx hb dX9_beside_77 (by decide) ?_
            refine lv_iload_n hx hb dX9_beside_79 rfl (lv_at hl 3 rfl) ?_
            refine lv_bipush (v := 100) hx hb dX9_beside_80 (by decide) ?_
            obtain ⟨h_45, hf⟩ := mm_cks hf
            refine lv_idiv hx hb dX9_beside_82 (mm_nzs h_45) ?_
            refine lv_iadd hx hb dX9_beside_83 ?_
            obtain ⟨h_46, hf⟩ := mm_cks hf
            refine mm_iald C0 hP 7 rfl h_46 dX9_beside_84 ?_
            refine lv_aload_n hx hb dX9_beside_85 rfl (lv_at hl 1 rfl) ?_
            refine mm_get C0 hP iw_X9 0 rfl rfl 10 (by decide) fl_X9_28 rfl dX9_beside_86 ?_
            refine lv_bipush (v := 32) hx hb dX9_beside_89 (by decide) ?_
            refine lv_iload_n hx hb dX9_beside_91 rfl (lv_at hl 3 rfl) ?_
            refine lv_bipush (v := 100) hx hb dX9_beside_92 (by decide) ?_
            obtain ⟨h_47, hf⟩ := mm_cks hf
            refine lv_irem hx hb dX9_beside_94 (mm_nzs h_47) ?_
            refine lv_iadd hx hb dX9_beside_95 ?_
            obtain ⟨h_48, hf⟩ := mm_cks hf
            refine mm_iald C0 hP 7 rfl h_48 dX9_beside_96 ?_
            refine lv_isub hx hb dX9_beside_97 ?_
            refine lv_topi (fun y_49 ey_49 => ?_)
            have hf := mm_nms hf ey_49
            refine lv_istore (lv' := [(4, .int y_49), (3, .int y_44), (0, .ref (a 0)), (1, .int x1), (2, .int x2)]) hx hb dX9_beside_98 hl (by decide) rfl (fun ls hl => ?_)
            refine lv_iload_n hx hb dX9_beside_100 rfl (lv_at hl 1 rfl) ?_
            refine lv_iload_n hx hb dX9_beside_101 rfl (lv_at hl 1 rfl) ?_
            refine lv_imul hx hb dX9_beside_102 ?_
            refine lv_iload hx hb dX9_beside_103 (lv_at hl 0 rfl) ?_
            refine lv_iload hx hb dX9_beside_105 (lv_at hl 0 rfl) ?_
            refine lv_imul hx hb dX9_beside_107 ?_
            refine lv_iadd hx hb dX9_beside_108 ?_
            refine lv_iconst (v := 1) hx hb dX9_beside_109 (by decide) ?_
            refine lv_icmp_ne (tgt := 141) hx hb dX9_beside_110 (by decide) (fun c_50 => ?_) (fun c_50 => ?_)
            · have hf := mm_in hf c_50
              refine lv_iconst (v := 0) hx hb dX9_beside_141 (by decide) ?_
              apply mm_sub25 hf
              exact mm_iret C0 hP hD hS dX9_beside_142
            · have hf := mm_ip hf c_50
              refine lv_aload_n hx hb dX9_beside_113 rfl (lv_at hl 2 rfl) ?_
              refine lv_iconst (v := 1) hx hb dX9_beside_114 (by decide) ?_
              refine lv_iload_n hx hb dX9_beside_115 rfl (lv_at hl 4 rfl) ?_
              refine lv_bipush (v := 100) hx hb dX9_beside_116 (by decide) ?_
              obtain ⟨h_51, hf⟩ := mm_cks hf
              refine lv_idiv hx hb dX9_beside_118 (mm_nzs h_51) ?_
              obtain ⟨r_52, hc_53, hf⟩ := mm_bd1s hf
              refine mm_callVF (q0 := 0) (ci := 9) (rest := []) C0 lk_X9_301 (ctX9_isOnTop (a := a) (d := d - 1) (by omega) hc_53) (by omega) rfl hl.1 rfl (mm_cat rfl) dX9_beside_119 hP hD hA hS rfl rfl (fun H locs hP hD hS => ?_)
              refine W.eq (g2 := F0 m 122 ls [.int (mm_b r_52)]) rfl ?_
              refine lv_if_eq (tgt := 141) hx hb dX9_beside_122 (by decide) (fun c_54 => ?_) (fun c_54 => ?_)
              · have hf := mm_ip hf (mm_b0 c_54)
                refine lv_iconst (v := 0) hx hb dX9_beside_141 (by decide) ?_
                apply mm_sub25 hf
                exact mm_iret C0 hP hD hS dX9_beside_142
              · have hf := mm_in hf (mm_b1 c_54)
                refine lv_aload_n hx hb dX9_beside_125 rfl (lv_at hl 2 rfl) ?_
                refine lv_iconst (v := 1) hx hb dX9_beside_126 (by decide) ?_
                refine lv_iload_n hx hb dX9_beside_127 rfl (lv_at hl 4 rfl) ?_
                refine lv_bipush (v := 100) hx hb dX9_beside_128 (by decide) ?_
                obtain ⟨h_55, hf⟩ := mm_cks hf
                refine lv_irem hx hb dX9_beside_130 (mm_nzs h_55) ?_
                obtain ⟨r_56, hc_57, hf⟩ := mm_bd1s hf
                refine mm_callVF (q0 := 0) (ci := 9) (rest := []) C0 lk_X9_301 (ctX9_isOnTop (a := a) (d := d - 1) (by omega) hc_57) (by omega) rfl hl.1 rfl (mm_cat rfl) dX9_beside_131 hP hD hA hS rfl rfl (fun H locs hP hD hS => ?_)
                refine W.eq (g2 := F0 m 134 ls [.int (mm_b r_56)]) rfl ?_
                refine lv_if_eq (tgt := 141) hx hb dX9_beside_134 (by decide) (fun c_58 => ?_) (fun c_58 => ?_)
                · have hf := mm_ip hf (mm_b0 c_58)
                  refine lv_iconst (v := 0) hx hb dX9_beside_141 (by decide) ?_
                  apply mm_sub25 hf
                  exact mm_iret C0 hP hD hS dX9_beside_142
                · have hf := mm_in hf (mm_b1 c_58)
                  refine lv_iconst (v := 1) hx hb dX9_beside_137 (by decide) ?_
                  refine lv_goto (tgt := 142) hx hb dX9_beside_138 (by decide) ?_
                  apply mm_sub25 hf
                  exact mm_iret C0 hP hD hS dX9_beside_142
          · have hf := mm_ip hf (mm_b0 c_39)
            refine lv_iconst (v := -1) hx hb dX9_beside_45 (by decide) ?_
            apply mm_sub25 hf
            exact mm_iret C0 hP hD hS dX9_beside_46

theorem nb_dX9_copies_0 : bls_w cX9_copies [(0, [42]), (1, [180, 0, 19]), (4, [28]), (5, [42]), (6, [180, 0, 19]), (9, [27]), (10, [46]), (11, [79]), (12, [42]), (13, [180, 0, 22]), (16, [28]), (17, [42])] := bls_of (by decide +kernel)
theorem dX9_copies_0 : decode cX9_copies 0 = .ok (.aload_n 0, 1) := op_42 nb_dX9_copies_0.1
set_option maxRecDepth 100000 in
theorem dX9_copies_1 : decode cX9_copies 1 = .ok (.getfield 19, 3) := (op_180 nb_dX9_copies_0.2.1).trans rfl
theorem dX9_copies_4 : decode cX9_copies 4 = .ok (.iload_n 2, 1) := op_28 nb_dX9_copies_0.2.2.1
theorem dX9_copies_5 : decode cX9_copies 5 = .ok (.aload_n 0, 1) := op_42 nb_dX9_copies_0.2.2.2.1
set_option maxRecDepth 100000 in
theorem dX9_copies_6 : decode cX9_copies 6 = .ok (.getfield 19, 3) := (op_180 nb_dX9_copies_0.2.2.2.2.1).trans rfl
theorem dX9_copies_9 : decode cX9_copies 9 = .ok (.iload_n 1, 1) := op_27 nb_dX9_copies_0.2.2.2.2.2.1
theorem dX9_copies_10 : decode cX9_copies 10 = .ok (.iaload, 1) := op_46 nb_dX9_copies_0.2.2.2.2.2.2.1
theorem dX9_copies_11 : decode cX9_copies 11 = .ok (.iastore, 1) := op_79 nb_dX9_copies_0.2.2.2.2.2.2.2.1
theorem dX9_copies_12 : decode cX9_copies 12 = .ok (.aload_n 0, 1) := op_42 nb_dX9_copies_0.2.2.2.2.2.2.2.2.1
set_option maxRecDepth 100000 in
theorem dX9_copies_13 : decode cX9_copies 13 = .ok (.getfield 22, 3) := (op_180 nb_dX9_copies_0.2.2.2.2.2.2.2.2.2.1).trans rfl
theorem dX9_copies_16 : decode cX9_copies 16 = .ok (.iload_n 2, 1) := op_28 nb_dX9_copies_0.2.2.2.2.2.2.2.2.2.2.1
theorem dX9_copies_17 : decode cX9_copies 17 = .ok (.aload_n 0, 1) := op_42 nb_dX9_copies_0.2.2.2.2.2.2.2.2.2.2.2.1
theorem nb_dX9_copies_18 : bls_w cX9_copies [(18, [180, 0, 22]), (21, [27]), (22, [46]), (23, [79]), (24, [3]), (25, [62]), (26, [29]), (27, [16, 32]), (29, [162, 0, 97]), (32, [42]), (33, [180, 0, 25]), (36, [16, 32])] := bls_of (by decide +kernel)
set_option maxRecDepth 100000 in
theorem dX9_copies_18 : decode cX9_copies 18 = .ok (.getfield 22, 3) := (op_180 nb_dX9_copies_18.1).trans rfl
theorem dX9_copies_21 : decode cX9_copies 21 = .ok (.iload_n 1, 1) := op_27 nb_dX9_copies_18.2.1
theorem dX9_copies_22 : decode cX9_copies 22 = .ok (.iaload, 1) := op_46 nb_dX9_copies_18.2.2.1
theorem dX9_copies_23 : decode cX9_copies 23 = .ok (.iastore, 1) := op_79 nb_dX9_copies_18.2.2.2.1
theorem dX9_copies_24 : decode cX9_copies 24 = .ok (.iconst 0, 1) := op_3 nb_dX9_copies_18.2.2.2.2.1
theorem dX9_copies_25 : decode cX9_copies 25 = .ok (.istore_n 3, 1) := op_62 nb_dX9_copies_18.2.2.2.2.2.1
theorem dX9_copies_26 : decode cX9_copies 26 = .ok (.iload_n 3, 1) := op_29 nb_dX9_copies_18.2.2.2.2.2.2.1
set_option maxRecDepth 100000 in
theorem dX9_copies_27 : decode cX9_copies 27 = .ok (.bipush 32, 2) := (op_16 nb_dX9_copies_18.2.2.2.2.2.2.2.1).trans rfl
set_option maxRecDepth 100000 in
theorem dX9_copies_29 : decode cX9_copies 29 = .ok (.if_icmp .ge 97, 3) := (op_162 nb_dX9_copies_18.2.2.2.2.2.2.2.2.1).trans rfl
theorem dX9_copies_32 : decode cX9_copies 32 = .ok (.aload_n 0, 1) := op_42 nb_dX9_copies_18.2.2.2.2.2.2.2.2.2.1
set_option maxRecDepth 100000 in
theorem dX9_copies_33 : decode cX9_copies 33 = .ok (.getfield 25, 3) := (op_180 nb_dX9_copies_18.2.2.2.2.2.2.2.2.2.2.1).trans rfl
set_option maxRecDepth 100000 in
theorem dX9_copies_36 : decode cX9_copies 36 = .ok (.bipush 32, 2) := (op_16 nb_dX9_copies_18.2.2.2.2.2.2.2.2.2.2.2.1).trans rfl
theorem nb_dX9_copies_38 : bls_w cX9_copies [(38, [28]), (39, [104]), (40, [29]), (41, [96]), (42, [42]), (43, [180, 0, 25]), (46, [16, 32]), (48, [27]), (49, [104]), (50, [29]), (51, [96]), (52, [46])] := bls_of (by decide +kernel)
theorem dX9_copies_38 : decode cX9_copies 38 = .ok (.iload_n 2, 1) := op_28 nb_dX9_copies_38.1
theorem dX9_copies_39 : decode cX9_copies 39 = .ok (.imul, 1) := op_104 nb_dX9_copies_38.2.1
theorem dX9_copies_40 : decode cX9_copies 40 = .ok (.iload_n 3, 1) := op_29 nb_dX9_copies_38.2.2.1
theorem dX9_copies_41 : decode cX9_copies 41 = .ok (.iadd, 1) := op_96 nb_dX9_copies_38.2.2.2.1
theorem dX9_copies_42 : decode cX9_copies 42 = .ok (.aload_n 0, 1) := op_42 nb_dX9_copies_38.2.2.2.2.1
set_option maxRecDepth 100000 in
theorem dX9_copies_43 : decode cX9_copies 43 = .ok (.getfield 25, 3) := (op_180 nb_dX9_copies_38.2.2.2.2.2.1).trans rfl
set_option maxRecDepth 100000 in
theorem dX9_copies_46 : decode cX9_copies 46 = .ok (.bipush 32, 2) := (op_16 nb_dX9_copies_38.2.2.2.2.2.2.1).trans rfl
theorem dX9_copies_48 : decode cX9_copies 48 = .ok (.iload_n 1, 1) := op_27 nb_dX9_copies_38.2.2.2.2.2.2.2.1
theorem dX9_copies_49 : decode cX9_copies 49 = .ok (.imul, 1) := op_104 nb_dX9_copies_38.2.2.2.2.2.2.2.2.1
theorem dX9_copies_50 : decode cX9_copies 50 = .ok (.iload_n 3, 1) := op_29 nb_dX9_copies_38.2.2.2.2.2.2.2.2.2.1
theorem dX9_copies_51 : decode cX9_copies 51 = .ok (.iadd, 1) := op_96 nb_dX9_copies_38.2.2.2.2.2.2.2.2.2.2.1
theorem dX9_copies_52 : decode cX9_copies 52 = .ok (.iaload, 1) := op_46 nb_dX9_copies_38.2.2.2.2.2.2.2.2.2.2.2.1
theorem nb_dX9_copies_53 : bls_w cX9_copies [(53, [79]), (54, [42]), (55, [180, 0, 28]), (58, [16, 32]), (60, [28]), (61, [104]), (62, [29]), (63, [96]), (64, [42]), (65, [180, 0, 28]), (68, [16, 32]), (70, [27])] := bls_of (by decide +kernel)
theorem dX9_copies_53 : decode cX9_copies 53 = .ok (.iastore, 1) := op_79 nb_dX9_copies_53.1
theorem dX9_copies_54 : decode cX9_copies 54 = .ok (.aload_n 0, 1) := op_42 nb_dX9_copies_53.2.1
set_option maxRecDepth 100000 in
theorem dX9_copies_55 : decode cX9_copies 55 = .ok (.getfield 28, 3) := (op_180 nb_dX9_copies_53.2.2.1).trans rfl
set_option maxRecDepth 100000 in
theorem dX9_copies_58 : decode cX9_copies 58 = .ok (.bipush 32, 2) := (op_16 nb_dX9_copies_53.2.2.2.1).trans rfl
theorem dX9_copies_60 : decode cX9_copies 60 = .ok (.iload_n 2, 1) := op_28 nb_dX9_copies_53.2.2.2.2.1
theorem dX9_copies_61 : decode cX9_copies 61 = .ok (.imul, 1) := op_104 nb_dX9_copies_53.2.2.2.2.2.1
theorem dX9_copies_62 : decode cX9_copies 62 = .ok (.iload_n 3, 1) := op_29 nb_dX9_copies_53.2.2.2.2.2.2.1
theorem dX9_copies_63 : decode cX9_copies 63 = .ok (.iadd, 1) := op_96 nb_dX9_copies_53.2.2.2.2.2.2.2.1
theorem dX9_copies_64 : decode cX9_copies 64 = .ok (.aload_n 0, 1) := op_42 nb_dX9_copies_53.2.2.2.2.2.2.2.2.1
set_option maxRecDepth 100000 in
theorem dX9_copies_65 : decode cX9_copies 65 = .ok (.getfield 28, 3) := (op_180 nb_dX9_copies_53.2.2.2.2.2.2.2.2.2.1).trans rfl
set_option maxRecDepth 100000 in
theorem dX9_copies_68 : decode cX9_copies 68 = .ok (.bipush 32, 2) := (op_16 nb_dX9_copies_53.2.2.2.2.2.2.2.2.2.2.1).trans rfl
theorem dX9_copies_70 : decode cX9_copies 70 = .ok (.iload_n 1, 1) := op_27 nb_dX9_copies_53.2.2.2.2.2.2.2.2.2.2.2.1
theorem nb_dX9_copies_71 : bls_w cX9_copies [(71, [104]), (72, [29]), (73, [96]), (74, [46]), (75, [79]), (76, [42]), (77, [180, 0, 31]), (80, [16, 32]), (82, [28]), (83, [104]), (84, [29]), (85, [96])] := bls_of (by decide +kernel)
theorem dX9_copies_71 : decode cX9_copies 71 = .ok (.imul, 1) := op_104 nb_dX9_copies_71.1
theorem dX9_copies_72 : decode cX9_copies 72 = .ok (.iload_n 3, 1) := op_29 nb_dX9_copies_71.2.1
theorem dX9_copies_73 : decode cX9_copies 73 = .ok (.iadd, 1) := op_96 nb_dX9_copies_71.2.2.1
theorem dX9_copies_74 : decode cX9_copies 74 = .ok (.iaload, 1) := op_46 nb_dX9_copies_71.2.2.2.1
theorem dX9_copies_75 : decode cX9_copies 75 = .ok (.iastore, 1) := op_79 nb_dX9_copies_71.2.2.2.2.1
theorem dX9_copies_76 : decode cX9_copies 76 = .ok (.aload_n 0, 1) := op_42 nb_dX9_copies_71.2.2.2.2.2.1
set_option maxRecDepth 100000 in
theorem dX9_copies_77 : decode cX9_copies 77 = .ok (.getfield 31, 3) := (op_180 nb_dX9_copies_71.2.2.2.2.2.2.1).trans rfl
set_option maxRecDepth 100000 in
theorem dX9_copies_80 : decode cX9_copies 80 = .ok (.bipush 32, 2) := (op_16 nb_dX9_copies_71.2.2.2.2.2.2.2.1).trans rfl
theorem dX9_copies_82 : decode cX9_copies 82 = .ok (.iload_n 2, 1) := op_28 nb_dX9_copies_71.2.2.2.2.2.2.2.2.1
theorem dX9_copies_83 : decode cX9_copies 83 = .ok (.imul, 1) := op_104 nb_dX9_copies_71.2.2.2.2.2.2.2.2.2.1
theorem dX9_copies_84 : decode cX9_copies 84 = .ok (.iload_n 3, 1) := op_29 nb_dX9_copies_71.2.2.2.2.2.2.2.2.2.2.1
theorem dX9_copies_85 : decode cX9_copies 85 = .ok (.iadd, 1) := op_96 nb_dX9_copies_71.2.2.2.2.2.2.2.2.2.2.2.1
theorem nb_dX9_copies_86 : bls_w cX9_copies [(86, [42]), (87, [180, 0, 31]), (90, [16, 32]), (92, [27]), (93, [104]), (94, [29]), (95, [96]), (96, [46]), (97, [79]), (98, [42]), (99, [180, 0, 34]), (102, [16, 32])] := bls_of (by decide +kernel)
theorem dX9_copies_86 : decode cX9_copies 86 = .ok (.aload_n 0, 1) := op_42 nb_dX9_copies_86.1
set_option maxRecDepth 100000 in
theorem dX9_copies_87 : decode cX9_copies 87 = .ok (.getfield 31, 3) := (op_180 nb_dX9_copies_86.2.1).trans rfl
set_option maxRecDepth 100000 in
theorem dX9_copies_90 : decode cX9_copies 90 = .ok (.bipush 32, 2) := (op_16 nb_dX9_copies_86.2.2.1).trans rfl
theorem dX9_copies_92 : decode cX9_copies 92 = .ok (.iload_n 1, 1) := op_27 nb_dX9_copies_86.2.2.2.1
theorem dX9_copies_93 : decode cX9_copies 93 = .ok (.imul, 1) := op_104 nb_dX9_copies_86.2.2.2.2.1
theorem dX9_copies_94 : decode cX9_copies 94 = .ok (.iload_n 3, 1) := op_29 nb_dX9_copies_86.2.2.2.2.2.1
theorem dX9_copies_95 : decode cX9_copies 95 = .ok (.iadd, 1) := op_96 nb_dX9_copies_86.2.2.2.2.2.2.1
theorem dX9_copies_96 : decode cX9_copies 96 = .ok (.iaload, 1) := op_46 nb_dX9_copies_86.2.2.2.2.2.2.2.1
theorem dX9_copies_97 : decode cX9_copies 97 = .ok (.iastore, 1) := op_79 nb_dX9_copies_86.2.2.2.2.2.2.2.2.1
theorem dX9_copies_98 : decode cX9_copies 98 = .ok (.aload_n 0, 1) := op_42 nb_dX9_copies_86.2.2.2.2.2.2.2.2.2.1
set_option maxRecDepth 100000 in
theorem dX9_copies_99 : decode cX9_copies 99 = .ok (.getfield 34, 3) := (op_180 nb_dX9_copies_86.2.2.2.2.2.2.2.2.2.2.1).trans rfl
set_option maxRecDepth 100000 in
theorem dX9_copies_102 : decode cX9_copies 102 = .ok (.bipush 32, 2) := (op_16 nb_dX9_copies_86.2.2.2.2.2.2.2.2.2.2.2.1).trans rfl
theorem nb_dX9_copies_104 : bls_w cX9_copies [(104, [28]), (105, [104]), (106, [29]), (107, [96]), (108, [42]), (109, [180, 0, 34]), (112, [16, 32]), (114, [27]), (115, [104]), (116, [29]), (117, [96]), (118, [46])] := bls_of (by decide +kernel)
theorem dX9_copies_104 : decode cX9_copies 104 = .ok (.iload_n 2, 1) := op_28 nb_dX9_copies_104.1
theorem dX9_copies_105 : decode cX9_copies 105 = .ok (.imul, 1) := op_104 nb_dX9_copies_104.2.1
theorem dX9_copies_106 : decode cX9_copies 106 = .ok (.iload_n 3, 1) := op_29 nb_dX9_copies_104.2.2.1
theorem dX9_copies_107 : decode cX9_copies 107 = .ok (.iadd, 1) := op_96 nb_dX9_copies_104.2.2.2.1
theorem dX9_copies_108 : decode cX9_copies 108 = .ok (.aload_n 0, 1) := op_42 nb_dX9_copies_104.2.2.2.2.1
set_option maxRecDepth 100000 in
theorem dX9_copies_109 : decode cX9_copies 109 = .ok (.getfield 34, 3) := (op_180 nb_dX9_copies_104.2.2.2.2.2.1).trans rfl
set_option maxRecDepth 100000 in
theorem dX9_copies_112 : decode cX9_copies 112 = .ok (.bipush 32, 2) := (op_16 nb_dX9_copies_104.2.2.2.2.2.2.1).trans rfl
theorem dX9_copies_114 : decode cX9_copies 114 = .ok (.iload_n 1, 1) := op_27 nb_dX9_copies_104.2.2.2.2.2.2.2.1
theorem dX9_copies_115 : decode cX9_copies 115 = .ok (.imul, 1) := op_104 nb_dX9_copies_104.2.2.2.2.2.2.2.2.1
theorem dX9_copies_116 : decode cX9_copies 116 = .ok (.iload_n 3, 1) := op_29 nb_dX9_copies_104.2.2.2.2.2.2.2.2.2.1
theorem dX9_copies_117 : decode cX9_copies 117 = .ok (.iadd, 1) := op_96 nb_dX9_copies_104.2.2.2.2.2.2.2.2.2.2.1
theorem dX9_copies_118 : decode cX9_copies 118 = .ok (.iaload, 1) := op_46 nb_dX9_copies_104.2.2.2.2.2.2.2.2.2.2.2.1
theorem nb_dX9_copies_119 : bls_w cX9_copies [(119, [79]), (120, [132, 3, 1]), (123, [167, 255, 159]), (126, [3]), (127, [62]), (128, [29]), (129, [16, 64]), (131, [162, 0, 53]), (134, [42]), (135, [180, 0, 37]), (138, [16, 64]), (140, [28])] := bls_of (by decide +kernel)
theorem dX9_copies_119 : decode cX9_copies 119 = .ok (.iastore, 1) := op_79 nb_dX9_copies_119.1
set_option maxRecDepth 100000 in
theorem dX9_copies_120 : decode cX9_copies 120 = .ok (.iinc 3 1, 3) := (op_132 nb_dX9_copies_119.2.1).trans rfl
set_option maxRecDepth 100000 in
theorem dX9_copies_123 : decode cX9_copies 123 = .ok (.goto (-97), 3) := (op_167 nb_dX9_copies_119.2.2.1).trans rfl
theorem dX9_copies_126 : decode cX9_copies 126 = .ok (.iconst 0, 1) := op_3 nb_dX9_copies_119.2.2.2.1
theorem dX9_copies_127 : decode cX9_copies 127 = .ok (.istore_n 3, 1) := op_62 nb_dX9_copies_119.2.2.2.2.1
theorem dX9_copies_128 : decode cX9_copies 128 = .ok (.iload_n 3, 1) := op_29 nb_dX9_copies_119.2.2.2.2.2.1
set_option maxRecDepth 100000 in
theorem dX9_copies_129 : decode cX9_copies 129 = .ok (.bipush 64, 2) := (op_16 nb_dX9_copies_119.2.2.2.2.2.2.1).trans rfl
set_option maxRecDepth 100000 in
theorem dX9_copies_131 : decode cX9_copies 131 = .ok (.if_icmp .ge 53, 3) := (op_162 nb_dX9_copies_119.2.2.2.2.2.2.2.1).trans rfl
theorem dX9_copies_134 : decode cX9_copies 134 = .ok (.aload_n 0, 1) := op_42 nb_dX9_copies_119.2.2.2.2.2.2.2.2.1
set_option maxRecDepth 100000 in
theorem dX9_copies_135 : decode cX9_copies 135 = .ok (.getfield 37, 3) := (op_180 nb_dX9_copies_119.2.2.2.2.2.2.2.2.2.1).trans rfl
set_option maxRecDepth 100000 in
theorem dX9_copies_138 : decode cX9_copies 138 = .ok (.bipush 64, 2) := (op_16 nb_dX9_copies_119.2.2.2.2.2.2.2.2.2.2.1).trans rfl
theorem dX9_copies_140 : decode cX9_copies 140 = .ok (.iload_n 2, 1) := op_28 nb_dX9_copies_119.2.2.2.2.2.2.2.2.2.2.2.1
theorem nb_dX9_copies_141 : bls_w cX9_copies [(141, [104]), (142, [29]), (143, [96]), (144, [42]), (145, [180, 0, 37]), (148, [16, 64]), (150, [27]), (151, [104]), (152, [29]), (153, [96]), (154, [46]), (155, [79])] := bls_of (by decide +kernel)
theorem dX9_copies_141 : decode cX9_copies 141 = .ok (.imul, 1) := op_104 nb_dX9_copies_141.1
theorem dX9_copies_142 : decode cX9_copies 142 = .ok (.iload_n 3, 1) := op_29 nb_dX9_copies_141.2.1
theorem dX9_copies_143 : decode cX9_copies 143 = .ok (.iadd, 1) := op_96 nb_dX9_copies_141.2.2.1
theorem dX9_copies_144 : decode cX9_copies 144 = .ok (.aload_n 0, 1) := op_42 nb_dX9_copies_141.2.2.2.1
set_option maxRecDepth 100000 in
theorem dX9_copies_145 : decode cX9_copies 145 = .ok (.getfield 37, 3) := (op_180 nb_dX9_copies_141.2.2.2.2.1).trans rfl
set_option maxRecDepth 100000 in
theorem dX9_copies_148 : decode cX9_copies 148 = .ok (.bipush 64, 2) := (op_16 nb_dX9_copies_141.2.2.2.2.2.1).trans rfl
theorem dX9_copies_150 : decode cX9_copies 150 = .ok (.iload_n 1, 1) := op_27 nb_dX9_copies_141.2.2.2.2.2.2.1
theorem dX9_copies_151 : decode cX9_copies 151 = .ok (.imul, 1) := op_104 nb_dX9_copies_141.2.2.2.2.2.2.2.1
theorem dX9_copies_152 : decode cX9_copies 152 = .ok (.iload_n 3, 1) := op_29 nb_dX9_copies_141.2.2.2.2.2.2.2.2.1
theorem dX9_copies_153 : decode cX9_copies 153 = .ok (.iadd, 1) := op_96 nb_dX9_copies_141.2.2.2.2.2.2.2.2.2.1
theorem dX9_copies_154 : decode cX9_copies 154 = .ok (.iaload, 1) := op_46 nb_dX9_copies_141.2.2.2.2.2.2.2.2.2.2.1
theorem dX9_copies_155 : decode cX9_copies 155 = .ok (.iastore, 1) := op_79 nb_dX9_copies_141.2.2.2.2.2.2.2.2.2.2.2.1
theorem nb_dX9_copies_156 : bls_w cX9_copies [(156, [42]), (157, [180, 0, 40]), (160, [16, 64]), (162, [28]), (163, [104]), (164, [29]), (165, [96]), (166, [42]), (167, [180, 0, 40]), (170, [16, 64]), (172, [27]), (173, [104])] := bls_of (by decide +kernel)
theorem dX9_copies_156 : decode cX9_copies 156 = .ok (.aload_n 0, 1) := op_42 nb_dX9_copies_156.1
set_option maxRecDepth 100000 in
theorem dX9_copies_157 : decode cX9_copies 157 = .ok (.getfield 40, 3) := (op_180 nb_dX9_copies_156.2.1).trans rfl
set_option maxRecDepth 100000 in
theorem dX9_copies_160 : decode cX9_copies 160 = .ok (.bipush 64, 2) := (op_16 nb_dX9_copies_156.2.2.1).trans rfl
theorem dX9_copies_162 : decode cX9_copies 162 = .ok (.iload_n 2, 1) := op_28 nb_dX9_copies_156.2.2.2.1
theorem dX9_copies_163 : decode cX9_copies 163 = .ok (.imul, 1) := op_104 nb_dX9_copies_156.2.2.2.2.1
theorem dX9_copies_164 : decode cX9_copies 164 = .ok (.iload_n 3, 1) := op_29 nb_dX9_copies_156.2.2.2.2.2.1
theorem dX9_copies_165 : decode cX9_copies 165 = .ok (.iadd, 1) := op_96 nb_dX9_copies_156.2.2.2.2.2.2.1
theorem dX9_copies_166 : decode cX9_copies 166 = .ok (.aload_n 0, 1) := op_42 nb_dX9_copies_156.2.2.2.2.2.2.2.1
set_option maxRecDepth 100000 in
theorem dX9_copies_167 : decode cX9_copies 167 = .ok (.getfield 40, 3) := (op_180 nb_dX9_copies_156.2.2.2.2.2.2.2.2.1).trans rfl
set_option maxRecDepth 100000 in
theorem dX9_copies_170 : decode cX9_copies 170 = .ok (.bipush 64, 2) := (op_16 nb_dX9_copies_156.2.2.2.2.2.2.2.2.2.1).trans rfl
theorem dX9_copies_172 : decode cX9_copies 172 = .ok (.iload_n 1, 1) := op_27 nb_dX9_copies_156.2.2.2.2.2.2.2.2.2.2.1
theorem dX9_copies_173 : decode cX9_copies 173 = .ok (.imul, 1) := op_104 nb_dX9_copies_156.2.2.2.2.2.2.2.2.2.2.2.1
theorem nb_dX9_copies_174 : bls_w cX9_copies [(174, [29]), (175, [96]), (176, [46]), (177, [79]), (178, [132, 3, 1]), (181, [167, 255, 203]), (184, [177])] := bls_of (by decide +kernel)
theorem dX9_copies_174 : decode cX9_copies 174 = .ok (.iload_n 3, 1) := op_29 nb_dX9_copies_174.1
theorem dX9_copies_175 : decode cX9_copies 175 = .ok (.iadd, 1) := op_96 nb_dX9_copies_174.2.1
theorem dX9_copies_176 : decode cX9_copies 176 = .ok (.iaload, 1) := op_46 nb_dX9_copies_174.2.2.1
theorem dX9_copies_177 : decode cX9_copies 177 = .ok (.iastore, 1) := op_79 nb_dX9_copies_174.2.2.2.1
set_option maxRecDepth 100000 in
theorem dX9_copies_178 : decode cX9_copies 178 = .ok (.iinc 3 1, 3) := (op_132 nb_dX9_copies_174.2.2.2.2.1).trans rfl
set_option maxRecDepth 100000 in
theorem dX9_copies_181 : decode cX9_copies 181 = .ok (.goto (-53), 3) := (op_167 nb_dX9_copies_174.2.2.2.2.2.1).trans rfl
theorem dX9_copies_184 : decode cX9_copies 184 = .ok (.return_, 1) := op_177 nb_dX9_copies_174.2.2.2.2.2.2.1
def fX9_copies_128 (N : Nat)  : Nat → Int32 → Int32 → Int32 → List Int32 → List Int32 → List Int32 → List Int32 → List Int32 → List Int32 → List Int32 → List Int32 → Option (List Int32 × List Int32 × List Int32 × List Int32 × List Int32 × List Int32 × List Int32 × List Int32)
  | 0 => fun _ _ _ _ _ _ _ _ _ _ _ => none
  | n + 1 => fun x1 x2 x3 v_shapeRows v_shapeColumns v_row v_column v_below v_face v_worn v_lastBend =>
    if (64 : Int32) ≤ x3 then
    (some (v_shapeRows, v_shapeColumns, v_row, v_column, v_below, v_face, v_worn, v_lastBend))
    else (mm_ck (mm_inb (((64 : Int32) * x1) + x3) v_worn.length) (mm_nm ((mm_ig v_worn (((64 : Int32) * x1) + x3))) (fun (y_29 : Int32) =>
    mm_ck (mm_inb (((64 : Int32) * x2) + x3) v_worn.length) (mm_nm (mm_is v_worn (((64 : Int32) * x2) + x3) y_29) (fun (l_31 : List Int32) =>
    mm_ck (mm_inb (((64 : Int32) * x1) + x3) v_lastBend.length) (mm_nm ((mm_ig v_lastBend (((64 : Int32) * x1) + x3))) (fun (y_33 : Int32) =>
    mm_ck (mm_inb (((64 : Int32) * x2) + x3) v_lastBend.length) (mm_nm (mm_is v_lastBend (((64 : Int32) * x2) + x3) y_33) (fun (l_35 : List Int32) =>
    mm_nm (x3 + (1 : Int32)) (fun (y_36 : Int32) =>
    fX9_copies_128 N n x1 x2 y_36 v_shapeRows v_shapeColumns v_row v_column v_below v_face l_31 l_35))))))))))

set_option maxHeartbeats 4000000 in
set_option maxRecDepth 100000 in
theorem tX9_copies_128 {p : Program} {l : Launch} {e : Env} {s : State} {m : MethodId} {args : Array Value} {below : List Frame} {meth : Method} {c : Code} {D : va_G} {cI cL cS cH : ClassId} {A : Nat → Prop} {d : Nat} {a : Nat → Nat} (hd : 1 ≤ d) (C0 : mm_Cx p s m args meth c RX9 cX9_copies 4 none D (mm_T cI cL cS cH) A) (hA : ∀ q, s.heap.size ≤ q → A q) {v_keptMany : Int32} {v_done : Int32} {v_rowsOf : Int32} {v_columnsOf : Int32} {v_folded : Int32} {v_wronged : Int32} {v_tapeMany : Int32} {v_textMany : Int32} {v_base : Int32} {v_at : Int32} {v_ends : Int32} {v_fault : Int32} {v_opened : Int32} {v_bentMany : Int32} {v_bentWrong : Int32} {v_moreWorn : Int32} {v_planned : Int32} {v_allWrong : Int32} {v_allWorn : Int32} {v_z : Int32} {v_wishedField : Int32} {v_isFound : Bool} {v_bestWrong : Int32} {v_bestWorn : Int32} {v_bestMany : Int32} {v_soughtBy : Int32} {v_sought : Int32} {v_soughtAt : Int32} {v_foundMany : Int32} {v_foundOrder : Int32} {v_isKept : Bool} {v_imageRows : Int32} {v_imageColumns : Int32} {v_imageFolded : Int32} {v_imageWronged : Int32} {v_bodies : Int32} {v_ran : Int32} {v_ownKind : Int32} {v_ownNumber : Int32} {v_limit : List Int32} {v_changeWas : List Int32} {v_changeIs : List Int32} {v_tape : List Int32} {v_text : List Int32} {v_names : List Int32} {v_bends : List Int32} {v_high : List Int32} {v_to : List Int32} {v_pileSize : List Int32} {v_planLine : List Int32} {v_planWay : List Int32} {v_way1 : List Int32} {v_bestWay : List Int32} {v_order1 : List Int32} {v_placeIn : List Int32} {v_bodyKind : List Int32} {v_trace : List Int32} {v_shelf : List Int32} {v_many : List Int32} {v_items : List Int64} {v_carried : List Int64} {w_shapeRows : List Int32} {w_shapeColumns : List Int32} {w_row : List Int32} {w_column : List Int32} {w_below : List Int32} {w_face : List Int32} {w_worn : List Int32} {w_lastBend : List Int32} (N : Nat)  : ∀ (n : Nat), ∀ (x1 : Int32) (x2 : Int32) (x3 : Int32) (v_shapeRows : List Int32) (v_shapeColumns : List Int32) (v_row : List Int32) (v_column : List Int32) (v_below : List Int32) (v_face : List Int32) (v_worn : List Int32) (v_lastBend : List Int32) (H : Heap) (locs : List Loc) (ls : Array Slot), fX9_copies_128 N n x1 x2 x3 v_shapeRows v_shapeColumns v_row v_column v_below v_face v_worn v_lastBend = some (w_shapeRows, w_shapeColumns, w_row, w_column, w_below, w_face, w_worn, w_lastBend) → va_P D mm_cl (wd_X9 cI cL cS cH a v_keptMany v_done v_rowsOf v_columnsOf v_folded v_wronged v_tapeMany v_textMany v_base v_at v_ends v_fault v_opened v_bentMany v_bentWrong v_moreWorn v_planned v_allWrong v_allWorn v_z v_wishedField v_isFound v_bestWrong v_bestWorn v_bestMany v_soughtBy v_sought v_soughtAt v_foundMany v_foundOrder v_isKept v_imageRows v_imageColumns v_imageFolded v_imageWronged v_bodies v_ran v_ownKind v_ownNumber v_limit v_changeWas v_changeIs v_shapeRows v_shapeColumns v_row v_column v_below v_face v_worn v_lastBend v_tape v_text v_names v_bends v_high v_to v_pileSize v_planLine v_planWay v_way1 v_bestWay v_order1 v_placeIn v_bodyKind v_trace v_shelf v_many v_items v_carried) H → va_D A (wd_X9 cI cL cS cH a v_keptMany v_done v_rowsOf v_columnsOf v_folded v_wronged v_tapeMany v_textMany v_base v_at v_ends v_fault v_opened v_bentMany v_bentWrong v_moreWorn v_planned v_allWrong v_allWorn v_z v_wishedField v_isFound v_bestWrong v_bestWorn v_bestMany v_soughtBy v_sought v_soughtAt v_foundMany v_foundOrder v_isKept v_imageRows v_imageColumns v_imageFolded v_imageWronged v_bodies v_ran v_ownKind v_ownNumber v_limit v_changeWas v_changeIs v_shapeRows v_shapeColumns v_row v_column v_below v_face v_worn v_lastBend v_tape v_text v_names v_bends v_high v_to v_pileSize v_planLine v_planWay v_way1 v_bestWay v_order1 v_placeIn v_bodyKind v_trace v_shelf v_many v_items v_carried) → va_S A s.heap H locs → lv_has ls 4 [(0, .ref (a 0)), (1, .int x1), (2, .int x2), (3, .int x3)] → W p l e (mm_rr d) s m args below meth c H locs 0 0 (mm_Z below D A (wd_X9 cI cL cS cH a v_keptMany v_done v_rowsOf v_columnsOf v_folded v_wronged v_tapeMany v_textMany v_base v_at v_ends v_fault v_opened v_bentMany v_bentWrong v_moreWorn v_planned v_allWrong v_allWorn v_z v_wishedField v_isFound v_bestWrong v_bestWorn v_bestMany v_soughtBy v_sought v_soughtAt v_foundMany v_foundOrder v_isKept v_imageRows v_imageColumns v_imageFolded v_imageWronged v_bodies v_ran v_ownKind v_ownNumber v_limit v_changeWas v_changeIs w_shapeRows w_shapeColumns w_row w_column w_below w_face w_worn w_lastBend v_tape v_text v_names v_bends v_high v_to v_pileSize v_planLine v_planWay v_way1 v_bestWay v_order1 v_placeIn v_bodyKind v_trace v_shelf v_many v_items v_carried) none args s) (F0 m 128 ls []) := by
  obtain ⟨hx, hb, hml, hown, hts, hr, hlocks, hK, hSt⟩ := id C0
  intro n
  induction n with
  | zero =>
    intro x1 x2 x3 v_shapeRows v_shapeColumns v_row v_column v_below v_face v_worn v_lastBend H locs ls hf
    cases (show none = some _ from hf)
  | succ n ih =>
    intro x1 x2 x3 v_shapeRows v_shapeColumns v_row v_column v_below v_face v_worn v_lastBend H locs ls hf hP hD hS hl
    unfold fX9_copies_128 at hf
    refine lv_iload_n hx hb dX9_copies_128 rfl (lv_at hl 3 rfl) ?_
    refine lv_bipush (v := 64) hx hb dX9_copies_129 (by decide) ?_
    refine lv_icmp_ge (tgt := 184) hx hb dX9_copies_131 (by decide) (fun c_27 => ?_) (fun c_27 => ?_)
    · have hf := mm_ip hf c_27
      apply mm_sub8 hf
      exact mm_vret C0 hP hD hS dX9_copies_184
    · have hf := mm_in hf c_27
      refine lv_aload_n hx hb dX9_copies_134 rfl (lv_at hl 0 rfl) ?_
      refine mm_get C0 hP iw_X9 0 rfl rfl 13 (by decide) fl_X9_37 rfl dX9_copies_135 ?_
      refine lv_bipush (v := 64) hx hb dX9_copies_138 (by decide) ?_
      refine lv_iload_n hx hb dX9_copies_140 rfl (lv_at hl 2 rfl) ?_
      refine lv_imul hx hb dX9_copies_141 ?_
      refine lv_iload_n hx hb dX9_copies_142 rfl (lv_at hl 3 rfl) ?_
      refine lv_iadd hx hb dX9_copies_143 ?_
      refine lv_aload_n hx hb dX9_copies_144 rfl (lv_at hl 0 rfl) ?_
      refine mm_get C0 hP iw_X9 0 rfl rfl 13 (by decide) fl_X9_37 rfl dX9_copies_145 ?_
      refine lv_bipush (v := 64) hx hb dX9_copies_148 (by decide) ?_
      refine lv_iload_n hx hb dX9_copies_150 rfl (lv_at hl 1 rfl) ?_
      refine lv_imul hx hb dX9_copies_151 ?_
      refine lv_iload_n hx hb dX9_copies_152 rfl (lv_at hl 3 rfl) ?_
      refine lv_iadd hx hb dX9_copies_153 ?_
      obtain ⟨h_28, hf⟩ := mm_cks hf
      refine mm_iald C0 hP 10 rfl h_28 dX9_copies_154 ?_
      refine lv_topi (fun y_29 ey_29 => ?_)
      have hf := mm_nms hf ey_29
      obtain ⟨h_30, hf⟩ := mm_cks hf
      refine mm_iast C0 hP hD hS 10 rfl h_30 dX9_copies_155 (w2 := (wd_X9 cI cL cS cH a v_keptMany v_done v_rowsOf v_columnsOf v_folded v_wronged v_tapeMany v_textMany v_base v_at v_ends v_fault v_opened v_bentMany v_bentWrong v_moreWorn v_planned v_allWrong v_allWorn v_z v_wishedField v_isFound v_bestWrong v_bestWorn v_bestMany v_soughtBy v_sought v_soughtAt v_foundMany v_foundOrder v_isKept v_imageRows v_imageColumns v_imageFolded v_imageWronged v_bodies v_ran v_ownKind v_ownNumber v_limit v_changeWas v_changeIs v_shapeRows v_shapeColumns v_row v_column v_below v_face (mm_is v_worn (((64 : Int32) * x2) + x3) y_29) v_lastBend v_tape v_text v_names v_bends v_high v_to v_pileSize v_planLine v_planWay v_way1 v_bestWay v_order1 v_placeIn v_bodyKind v_trace v_shelf v_many v_items v_carried)) rfl (fun H locs hP hD hS => ?_)
      generalize el_31 : (mm_is v_worn (((64 : Int32) * x2) + x3) y_29) = l_31 at hP hD
      have hf := mm_nms hf el_31.symm
      refine lv_aload_n hx hb dX9_copies_156 rfl (lv_at hl 0 rfl) ?_
      refine mm_get C0 hP iw_X9 0 rfl rfl 14 (by decide) fl_X9_40 rfl dX9_copies_157 ?_
      refine lv_bipush (v := 64) hx hb dX9_copies_160 (by decide) ?_
      refine lv_iload_n hx hb dX9_copies_162 rfl (lv_at hl 2 rfl) ?_
      refine lv_imul hx hb dX9_copies_163 ?_
      refine lv_iload_n hx hb dX9_copies_164 rfl (lv_at hl 3 rfl) ?_
      refine lv_iadd hx hb dX9_copies_165 ?_
      refine lv_aload_n hx hb dX9_copies_166 rfl (lv_at hl 0 rfl) ?_
      refine mm_get C0 hP iw_X9 0 rfl rfl 14 (by decide) fl_X9_40 rfl dX9_copies_167 ?_
      refine lv_bipush (v := 64) hx hb dX9_copies_170 (by decide) ?_
      refine lv_iload_n hx hb dX9_copies_172 rfl (lv_at hl 1 rfl) ?_
      refine lv_imul hx hb dX9_copies_173 ?_
      refine lv_iload_n hx hb dX9_copies_174 rfl (lv_at hl 3 rfl) ?_
      refine lv_iadd hx hb dX9_copies_175 ?_
      obtain ⟨h_32, hf⟩ := mm_cks hf
      refine mm_iald C0 hP 11 rfl h_32 dX9_copies_176 ?_
      refine lv_topi (fun y_33 ey_33 => ?_)
      have hf := mm_nms hf ey_33
      obtain ⟨h_34, hf⟩ := mm_cks hf
      refine mm_iast C0 hP hD hS 11 rfl h_34 dX9_copies_177 (w2 := (wd_X9 cI cL cS cH a v_keptMany v_done v_rowsOf v_columnsOf v_folded v_wronged v_tapeMany v_textMany v_base v_at v_ends v_fault v_opened v_bentMany v_bentWrong v_moreWorn v_planned v_allWrong v_allWorn v_z v_wishedField v_isFound v_bestWrong v_bestWorn v_bestMany v_soughtBy v_sought v_soughtAt v_foundMany v_foundOrder v_isKept v_imageRows v_imageColumns v_imageFolded v_imageWronged v_bodies v_ran v_ownKind v_ownNumber v_limit v_changeWas v_changeIs v_shapeRows v_shapeColumns v_row v_column v_below v_face l_31 (mm_is v_lastBend (((64 : Int32) * x2) + x3) y_33) v_tape v_text v_names v_bends v_high v_to v_pileSize v_planLine v_planWay v_way1 v_bestWay v_order1 v_placeIn v_bodyKind v_trace v_shelf v_many v_items v_carried)) rfl (fun H locs hP hD hS => ?_)
      generalize el_35 : (mm_is v_lastBend (((64 : Int32) * x2) + x3) y_33) = l_35 at hP hD
      have hf := mm_nms hf el_35.symm
      obtain ⟨y_36, ey_36⟩ : ∃ z : Int32, z = x3 + (1 : Int32) := ⟨_, rfl⟩
      have hf := mm_nms hf ey_36
      refine lv_iinc (v := y_36) (lv' := [(3, .int y_36), (0, .ref (a 0)), (1, .int x1), (2, .int x2)]) hx hb dX9_copies_178 hl (k := 3) rfl (by rw [ey_36]; rfl) (by decide) rfl (fun ls hl => ?_)
      refine lv_goto (tgt := 128) hx hb dX9_copies_181 (by decide) ?_
      exact ih _ _ _ _ _ _ _ _ _ _ _ H locs ls hf hP hD hS (lv_sub hl [1, 2, 3, 0] rfl)

def fX9_copies_26 (N : Nat)  : Nat → Int32 → Int32 → Int32 → List Int32 → List Int32 → List Int32 → List Int32 → List Int32 → List Int32 → List Int32 → List Int32 → Option (List Int32 × List Int32 × List Int32 × List Int32 × List Int32 × List Int32 × List Int32 × List Int32)
  | 0 => fun _ _ _ _ _ _ _ _ _ _ _ => none
  | n + 1 => fun x1 x2 x3 v_shapeRows v_shapeColumns v_row v_column v_below v_face v_worn v_lastBend =>
    if (32 : Int32) ≤ x3 then
    (fX9_copies_128 N N x1 x2 (0 : Int32) v_shapeRows v_shapeColumns v_row v_column v_below v_face v_worn v_lastBend)
    else (mm_ck (mm_inb (((32 : Int32) * x1) + x3) v_row.length) (mm_nm ((mm_ig v_row (((32 : Int32) * x1) + x3))) (fun (y_11 : Int32) =>
    mm_ck (mm_inb (((32 : Int32) * x2) + x3) v_row.length) (mm_nm (mm_is v_row (((32 : Int32) * x2) + x3) y_11) (fun (l_13 : List Int32) =>
    mm_ck (mm_inb (((32 : Int32) * x1) + x3) v_column.length) (mm_nm ((mm_ig v_column (((32 : Int32) * x1) + x3))) (fun (y_15 : Int32) =>
    mm_ck (mm_inb (((32 : Int32) * x2) + x3) v_column.length) (mm_nm (mm_is v_column (((32 : Int32) * x2) + x3) y_15) (fun (l_17 : List Int32) =>
    mm_ck (mm_inb (((32 : Int32) * x1) + x3) v_below.length) (mm_nm ((mm_ig v_below (((32 : Int32) * x1) + x3))) (fun (y_19 : Int32) =>
    mm_ck (mm_inb (((32 : Int32) * x2) + x3) v_below.length) (mm_nm (mm_is v_below (((32 : Int32) * x2) + x3) y_19) (fun (l_21 : List Int32) =>
    mm_ck (mm_inb (((32 : Int32) * x1) + x3) v_face.length) (mm_nm ((mm_ig v_face (((32 : Int32) * x1) + x3))) (fun (y_23 : Int32) =>
    mm_ck (mm_inb (((32 : Int32) * x2) + x3) v_face.length) (mm_nm (mm_is v_face (((32 : Int32) * x2) + x3) y_23) (fun (l_25 : List Int32) =>
    mm_nm (x3 + (1 : Int32)) (fun (y_26 : Int32) =>
    fX9_copies_26 N n x1 x2 y_26 v_shapeRows v_shapeColumns l_13 l_17 l_21 l_25 v_worn v_lastBend))))))))))))))))))

set_option maxHeartbeats 4000000 in
set_option maxRecDepth 100000 in
theorem tX9_copies_26 {p : Program} {l : Launch} {e : Env} {s : State} {m : MethodId} {args : Array Value} {below : List Frame} {meth : Method} {c : Code} {D : va_G} {cI cL cS cH : ClassId} {A : Nat → Prop} {d : Nat} {a : Nat → Nat} (hd : 1 ≤ d) (C0 : mm_Cx p s m args meth c RX9 cX9_copies 4 none D (mm_T cI cL cS cH) A) (hA : ∀ q, s.heap.size ≤ q → A q) {v_keptMany : Int32} {v_done : Int32} {v_rowsOf : Int32} {v_columnsOf : Int32} {v_folded : Int32} {v_wronged : Int32} {v_tapeMany : Int32} {v_textMany : Int32} {v_base : Int32} {v_at : Int32} {v_ends : Int32} {v_fault : Int32} {v_opened : Int32} {v_bentMany : Int32} {v_bentWrong : Int32} {v_moreWorn : Int32} {v_planned : Int32} {v_allWrong : Int32} {v_allWorn : Int32} {v_z : Int32} {v_wishedField : Int32} {v_isFound : Bool} {v_bestWrong : Int32} {v_bestWorn : Int32} {v_bestMany : Int32} {v_soughtBy : Int32} {v_sought : Int32} {v_soughtAt : Int32} {v_foundMany : Int32} {v_foundOrder : Int32} {v_isKept : Bool} {v_imageRows : Int32} {v_imageColumns : Int32} {v_imageFolded : Int32} {v_imageWronged : Int32} {v_bodies : Int32} {v_ran : Int32} {v_ownKind : Int32} {v_ownNumber : Int32} {v_limit : List Int32} {v_changeWas : List Int32} {v_changeIs : List Int32} {v_tape : List Int32} {v_text : List Int32} {v_names : List Int32} {v_bends : List Int32} {v_high : List Int32} {v_to : List Int32} {v_pileSize : List Int32} {v_planLine : List Int32} {v_planWay : List Int32} {v_way1 : List Int32} {v_bestWay : List Int32} {v_order1 : List Int32} {v_placeIn : List Int32} {v_bodyKind : List Int32} {v_trace : List Int32} {v_shelf : List Int32} {v_many : List Int32} {v_items : List Int64} {v_carried : List Int64} {w_shapeRows : List Int32} {w_shapeColumns : List Int32} {w_row : List Int32} {w_column : List Int32} {w_below : List Int32} {w_face : List Int32} {w_worn : List Int32} {w_lastBend : List Int32} (N : Nat)  : ∀ (n : Nat), ∀ (x1 : Int32) (x2 : Int32) (x3 : Int32) (v_shapeRows : List Int32) (v_shapeColumns : List Int32) (v_row : List Int32) (v_column : List Int32) (v_below : List Int32) (v_face : List Int32) (v_worn : List Int32) (v_lastBend : List Int32) (H : Heap) (locs : List Loc) (ls : Array Slot), fX9_copies_26 N n x1 x2 x3 v_shapeRows v_shapeColumns v_row v_column v_below v_face v_worn v_lastBend = some (w_shapeRows, w_shapeColumns, w_row, w_column, w_below, w_face, w_worn, w_lastBend) → va_P D mm_cl (wd_X9 cI cL cS cH a v_keptMany v_done v_rowsOf v_columnsOf v_folded v_wronged v_tapeMany v_textMany v_base v_at v_ends v_fault v_opened v_bentMany v_bentWrong v_moreWorn v_planned v_allWrong v_allWorn v_z v_wishedField v_isFound v_bestWrong v_bestWorn v_bestMany v_soughtBy v_sought v_soughtAt v_foundMany v_foundOrder v_isKept v_imageRows v_imageColumns v_imageFolded v_imageWronged v_bodies v_ran v_ownKind v_ownNumber v_limit v_changeWas v_changeIs v_shapeRows v_shapeColumns v_row v_column v_below v_face v_worn v_lastBend v_tape v_text v_names v_bends v_high v_to v_pileSize v_planLine v_planWay v_way1 v_bestWay v_order1 v_placeIn v_bodyKind v_trace v_shelf v_many v_items v_carried) H → va_D A (wd_X9 cI cL cS cH a v_keptMany v_done v_rowsOf v_columnsOf v_folded v_wronged v_tapeMany v_textMany v_base v_at v_ends v_fault v_opened v_bentMany v_bentWrong v_moreWorn v_planned v_allWrong v_allWorn v_z v_wishedField v_isFound v_bestWrong v_bestWorn v_bestMany v_soughtBy v_sought v_soughtAt v_foundMany v_foundOrder v_isKept v_imageRows v_imageColumns v_imageFolded v_imageWronged v_bodies v_ran v_ownKind v_ownNumber v_limit v_changeWas v_changeIs v_shapeRows v_shapeColumns v_row v_column v_below v_face v_worn v_lastBend v_tape v_text v_names v_bends v_high v_to v_pileSize v_planLine v_planWay v_way1 v_bestWay v_order1 v_placeIn v_bodyKind v_trace v_shelf v_many v_items v_carried) → va_S A s.heap H locs → lv_has ls 4 [(0, .ref (a 0)), (1, .int x1), (2, .int x2), (3, .int x3)] → W p l e (mm_rr d) s m args below meth c H locs 0 0 (mm_Z below D A (wd_X9 cI cL cS cH a v_keptMany v_done v_rowsOf v_columnsOf v_folded v_wronged v_tapeMany v_textMany v_base v_at v_ends v_fault v_opened v_bentMany v_bentWrong v_moreWorn v_planned v_allWrong v_allWorn v_z v_wishedField v_isFound v_bestWrong v_bestWorn v_bestMany v_soughtBy v_sought v_soughtAt v_foundMany v_foundOrder v_isKept v_imageRows v_imageColumns v_imageFolded v_imageWronged v_bodies v_ran v_ownKind v_ownNumber v_limit v_changeWas v_changeIs w_shapeRows w_shapeColumns w_row w_column w_below w_face w_worn w_lastBend v_tape v_text v_names v_bends v_high v_to v_pileSize v_planLine v_planWay v_way1 v_bestWay v_order1 v_placeIn v_bodyKind v_trace v_shelf v_many v_items v_carried) none args s) (F0 m 26 ls []) := by
  obtain ⟨hx, hb, hml, hown, hts, hr, hlocks, hK, hSt⟩ := id C0
  intro n
  induction n with
  | zero =>
    intro x1 x2 x3 v_shapeRows v_shapeColumns v_row v_column v_below v_face v_worn v_lastBend H locs ls hf
    cases (show none = some _ from hf)
  | succ n ih =>
    intro x1 x2 x3 v_shapeRows v_shapeColumns v_row v_column v_below v_face v_worn v_lastBend H locs ls hf hP hD hS hl
    unfold fX9_copies_26 at hf
    refine lv_iload_n hx hb dX9_copies_26 rfl (lv_at hl 3 rfl) ?_
    refine lv_bipush (v := 32) hx hb dX9_copies_27 (by decide) ?_
    refine lv_icmp_ge (tgt := 126) hx hb dX9_copies_29 (by decide) (fun c_9 => ?_) (fun c_9 => ?_)
    · have hf := mm_ip hf c_9
      refine lv_iconst (v := 0) hx hb dX9_copies_126 (by decide) ?_
      refine lv_istore_n (lv' := [(3, .int (0 : Int32)), (0, .ref (a 0)), (1, .int x1), (2, .int x2)]) hx hb dX9_copies_127 rfl hl (by decide) rfl (fun ls hl => ?_)
      exact tX9_copies_128 hd C0 hA N  N _ _ _ _ _ _ _ _ _ _ _ H locs ls hf hP hD hS (lv_sub hl [1, 2, 3, 0] rfl)
    · have hf := mm_in hf c_9
      refine lv_aload_n hx hb dX9_copies_32 rfl (lv_at hl 0 rfl) ?_
      refine mm_get C0 hP iw_X9 0 rfl rfl 9 (by decide) fl_X9_25 rfl dX9_copies_33 ?_
      refine lv_bipush (v := 32) hx hb dX9_copies_36 (by decide) ?_
      refine lv_iload_n hx hb dX9_copies_38 rfl (lv_at hl 2 rfl) ?_
      refine lv_imul hx hb dX9_copies_39 ?_
      refine lv_iload_n hx hb dX9_copies_40 rfl (lv_at hl 3 rfl) ?_
      refine lv_iadd hx hb dX9_copies_41 ?_
      refine lv_aload_n hx hb dX9_copies_42 rfl (lv_at hl 0 rfl) ?_
      refine mm_get C0 hP iw_X9 0 rfl rfl 9 (by decide) fl_X9_25 rfl dX9_copies_43 ?_
      refine lv_bipush (v := 32) hx hb dX9_copies_46 (by decide) ?_
      refine lv_iload_n hx hb dX9_copies_48 rfl (lv_at hl 1 rfl) ?_
      refine lv_imul hx hb dX9_copies_49 ?_
      refine lv_iload_n hx hb dX9_copies_50 rfl (lv_at hl 3 rfl) ?_
      refine lv_iadd hx hb dX9_copies_51 ?_
      obtain ⟨h_10, hf⟩ := mm_cks hf
      refine mm_iald C0 hP 6 rfl h_10 dX9_copies_52 ?_
      refine lv_topi (fun y_11 ey_11 => ?_)
      have hf := mm_nms hf ey_11
      obtain ⟨h_12, hf⟩ := mm_cks hf
      refine mm_iast C0 hP hD hS 6 rfl h_12 dX9_copies_53 (w2 := (wd_X9 cI cL cS cH a v_keptMany v_done v_rowsOf v_columnsOf v_folded v_wronged v_tapeMany v_textMany v_base v_at v_ends v_fault v_opened v_bentMany v_bentWrong v_moreWorn v_planned v_allWrong v_allWorn v_z v_wishedField v_isFound v_bestWrong v_bestWorn v_bestMany v_soughtBy v_sought v_soughtAt v_foundMany v_foundOrder v_isKept v_imageRows v_imageColumns v_imageFolded v_imageWronged v_bodies v_ran v_ownKind v_ownNumber v_limit v_changeWas v_changeIs v_shapeRows v_shapeColumns (mm_is v_row (((32 : Int32) * x2) + x3) y_11) v_column v_below v_face v_worn v_lastBend v_tape v_text v_names v_bends v_high v_to v_pileSize v_planLine v_planWay v_way1 v_bestWay v_order1 v_placeIn v_bodyKind v_trace v_shelf v_many v_items v_carried)) rfl (fun H locs hP hD hS => ?_)
      generalize el_13 : (mm_is v_row (((32 : Int32) * x2) + x3) y_11) = l_13 at hP hD
      have hf := mm_nms hf el_13.symm
      refine lv_aload_n hx hb dX9_copies_54 rfl (lv_at hl 0 rfl) ?_
      refine mm_get C0 hP iw_X9 0 rfl rfl 10 (by decide) fl_X9_28 rfl dX9_copies_55 ?_
      refine lv_bipush (v := 32) hx hb dX9_copies_58 (by decide) ?_
      refine lv_iload_n hx hb dX9_copies_60 rfl (lv_at hl 2 rfl) ?_
      refine lv_imul hx hb dX9_copies_61 ?_
      refine lv_iload_n hx hb dX9_copies_62 rfl (lv_at hl 3 rfl) ?_
      refine lv_iadd hx hb dX9_copies_63 ?_
      refine lv_aload_n hx hb dX9_copies_64 rfl (lv_at hl 0 rfl) ?_
      refine mm_get C0 hP iw_X9 0 rfl rfl 10 (by decide) fl_X9_28 rfl dX9_copies_65 ?_
      refine lv_bipush (v := 32) hx hb dX9_copies_68 (by decide) ?_
      refine lv_iload_n hx hb dX9_copies_70 rfl (lv_at hl 1 rfl) ?_
      refine lv_imul hx hb dX9_copies_71 ?_
      refine lv_iload_n hx hb dX9_copies_72 rfl (lv_at hl 3 rfl) ?_
      refine lv_iadd hx hb dX9_copies_73 ?_
      obtain ⟨h_14, hf⟩ := mm_cks hf
      refine mm_iald C0 hP 7 rfl h_14 dX9_copies_74 ?_
      refine lv_topi (fun y_15 ey_15 => ?_)
      have hf := mm_nms hf ey_15
      obtain ⟨h_16, hf⟩ := mm_cks hf
      refine mm_iast C0 hP hD hS 7 rfl h_16 dX9_copies_75 (w2 := (wd_X9 cI cL cS cH a v_keptMany v_done v_rowsOf v_columnsOf v_folded v_wronged v_tapeMany v_textMany v_base v_at v_ends v_fault v_opened v_bentMany v_bentWrong v_moreWorn v_planned v_allWrong v_allWorn v_z v_wishedField v_isFound v_bestWrong v_bestWorn v_bestMany v_soughtBy v_sought v_soughtAt v_foundMany v_foundOrder v_isKept v_imageRows v_imageColumns v_imageFolded v_imageWronged v_bodies v_ran v_ownKind v_ownNumber v_limit v_changeWas v_changeIs v_shapeRows v_shapeColumns l_13 (mm_is v_column (((32 : Int32) * x2) + x3) y_15) v_below v_face v_worn v_lastBend v_tape v_text v_names v_bends v_high v_to v_pileSize v_planLine v_planWay v_way1 v_bestWay v_order1 v_placeIn v_bodyKind v_trace v_shelf v_many v_items v_carried)) rfl (fun H locs hP hD hS => ?_)
      generalize el_17 : (mm_is v_column (((32 : Int32) * x2) + x3) y_15) = l_17 at hP hD
      have hf := mm_nms hf el_17.symm
      refine lv_aload_n hx hb dX9_copies_76 rfl (lv_at hl 0 rfl) ?_
      refine mm_get C0 hP iw_X9 0 rfl rfl 11 (by decide) fl_X9_31 rfl dX9_copies_77 ?_
      refine lv_bipush (v := 32) hx hb dX9_copies_80 (by decide) ?_
      refine lv_iload_n hx hb dX9_copies_82 rfl (lv_at hl 2 rfl) ?_
      refine lv_imul hx hb dX9_copies_83 ?_
      refine lv_iload_n hx hb dX9_copies_84 rfl (lv_at hl 3 rfl) ?_
      refine lv_iadd hx hb dX9_copies_85 ?_
      refine lv_aload_n hx hb dX9_copies_86 rfl (lv_at hl 0 rfl) ?_
      refine mm_get C0 hP iw_X9 0 rfl rfl 11 (by decide) fl_X9_31 rfl dX9_copies_87 ?_
      refine lv_bipush (v := 32) hx hb dX9_copies_90 (by decide) ?_
      refine lv_iload_n hx hb dX9_copies_92 rfl (lv_at hl 1 rfl) ?_
      refine lv_imul hx hb dX9_copies_93 ?_
      refine lv_iload_n hx hb dX9_copies_94 rfl (lv_at hl 3 rfl) ?_
      refine lv_iadd hx hb dX9_copies_95 ?_
      obtain ⟨h_18, hf⟩ := mm_cks hf
      refine mm_iald C0 hP 8 rfl h_18 dX9_copies_96 ?_
      refine lv_topi (fun y_19 ey_19 => ?_)
      have hf := mm_nms hf ey_19
      obtain ⟨h_20, hf⟩ := mm_cks hf
      refine mm_iast C0 hP hD hS 8 rfl h_20 dX9_copies_97 (w2 := (wd_X9 cI cL cS cH a v_keptMany v_done v_rowsOf v_columnsOf v_folded v_wronged v_tapeMany v_textMany v_base v_at v_ends v_fault v_opened v_bentMany v_bentWrong v_moreWorn v_planned v_allWrong v_allWorn v_z v_wishedField v_isFound v_bestWrong v_bestWorn v_bestMany v_soughtBy v_sought v_soughtAt v_foundMany v_foundOrder v_isKept v_imageRows v_imageColumns v_imageFolded v_imageWronged v_bodies v_ran v_ownKind v_ownNumber v_limit v_changeWas v_changeIs v_shapeRows v_shapeColumns l_13 l_17 (mm_is v_below (((32 : Int32) * x2) + x3) y_19) v_face v_worn v_lastBend v_tape v_text v_names v_bends v_high v_to v_pileSize v_planLine v_planWay v_way1 v_bestWay v_order1 v_placeIn v_bodyKind v_trace v_shelf v_many v_items v_carried)) rfl (fun H locs hP hD hS => ?_)
      generalize el_21 : (mm_is v_below (((32 : Int32) * x2) + x3) y_19) = l_21 at hP hD
      have hf := mm_nms hf el_21.symm
      refine lv_aload_n hx hb dX9_copies_98 rfl (lv_at hl 0 rfl) ?_
      refine mm_get C0 hP iw_X9 0 rfl rfl 12 (by decide) fl_X9_34 rfl dX9_copies_99 ?_
      refine lv_bipush (v := 32) hx hb dX9_copies_102 (by decide) ?_
      refine lv_iload_n hx hb dX9_copies_104 rfl (lv_at hl 2 rfl) ?_
      refine lv_imul hx hb dX9_copies_105 ?_
      refine lv_iload_n hx hb dX9_copies_106 rfl (lv_at hl 3 rfl) ?_
      refine lv_iadd hx hb dX9_copies_107 ?_
      refine lv_aload_n hx hb dX9_copies_108 rfl (lv_at hl 0 rfl) ?_
      refine mm_get C0 hP iw_X9 0 rfl rfl 12 (by decide) fl_X9_34 rfl dX9_copies_109 ?_
      refine lv_bipush (v := 32) hx hb dX9_copies_112 (by decide) ?_
      refine lv_iload_n hx hb dX9_copies_114 rfl (lv_at hl 1 rfl) ?_
      refine lv_imul hx hb dX9_copies_115 ?_
      refine lv_iload_n hx hb dX9_copies_116 rfl (lv_at hl 3 rfl) ?_
      refine lv_iadd hx hb dX9_copies_117 ?_
      obtain ⟨h_22, hf⟩ := mm_cks hf
      refine mm_iald C0 hP 9 rfl h_22 dX9_copies_118 ?_
      refine lv_topi (fun y_23 ey_23 => ?_)
      have hf := mm_nms hf ey_23
      obtain ⟨h_24, hf⟩ := mm_cks hf
      refine mm_iast C0 hP hD hS 9 rfl h_24 dX9_copies_119 (w2 := (wd_X9 cI cL cS cH a v_keptMany v_done v_rowsOf v_columnsOf v_folded v_wronged v_tapeMany v_textMany v_base v_at v_ends v_fault v_opened v_bentMany v_bentWrong v_moreWorn v_planned v_allWrong v_allWorn v_z v_wishedField v_isFound v_bestWrong v_bestWorn v_bestMany v_soughtBy v_sought v_soughtAt v_foundMany v_foundOrder v_isKept v_imageRows v_imageColumns v_imageFolded v_imageWronged v_bodies v_ran v_ownKind v_ownNumber v_limit v_changeWas v_changeIs v_shapeRows v_shapeColumns l_13 l_17 l_21 (mm_is v_face (((32 : Int32) * x2) + x3) y_23) v_worn v_lastBend v_tape v_text v_names v_bends v_high v_to v_pileSize v_planLine v_planWay v_way1 v_bestWay v_order1 v_placeIn v_bodyKind v_trace v_shelf v_many v_items v_carried)) rfl (fun H locs hP hD hS => ?_)
      generalize el_25 : (mm_is v_face (((32 : Int32) * x2) + x3) y_23) = l_25 at hP hD
      have hf := mm_nms hf el_25.symm
      obtain ⟨y_26, ey_26⟩ : ∃ z : Int32, z = x3 + (1 : Int32) := ⟨_, rfl⟩
      have hf := mm_nms hf ey_26
      refine lv_iinc (v := y_26) (lv' := [(3, .int y_26), (0, .ref (a 0)), (1, .int x1), (2, .int x2)]) hx hb dX9_copies_120 hl (k := 3) rfl (by rw [ey_26]; rfl) (by decide) rfl (fun ls hl => ?_)
      refine lv_goto (tgt := 26) hx hb dX9_copies_123 (by decide) ?_
      exact ih _ _ _ _ _ _ _ _ _ _ _ H locs ls hf hP hD hS (lv_sub hl [1, 2, 3, 0] rfl)

def fX9_copies (N : Nat) (x1 : Int32) (x2 : Int32) (v_shapeRows : List Int32) (v_shapeColumns : List Int32) (v_row : List Int32) (v_column : List Int32) (v_below : List Int32) (v_face : List Int32) (v_worn : List Int32) (v_lastBend : List Int32) : Option (List Int32 × List Int32 × List Int32 × List Int32 × List Int32 × List Int32 × List Int32 × List Int32) :=
    mm_ck (mm_inb x1 v_shapeRows.length) (mm_nm ((mm_ig v_shapeRows x1)) (fun (y_2 : Int32) =>
    mm_ck (mm_inb x2 v_shapeRows.length) (mm_nm (mm_is v_shapeRows x2 y_2) (fun (l_4 : List Int32) =>
    mm_ck (mm_inb x1 v_shapeColumns.length) (mm_nm ((mm_ig v_shapeColumns x1)) (fun (y_6 : Int32) =>
    mm_ck (mm_inb x2 v_shapeColumns.length) (mm_nm (mm_is v_shapeColumns x2 y_6) (fun (l_8 : List Int32) =>
    fX9_copies_26 N N x1 x2 (0 : Int32) l_4 l_8 v_row v_column v_below v_face v_worn v_lastBend))))))))

set_option maxHeartbeats 4000000 in
set_option maxRecDepth 100000 in
theorem ctX9_copies {l : Launch} {D : va_G} {cI cL cS cH : ClassId} {a : Nat → Nat} {x1 : Int32} {x2 : Int32} {v_keptMany : Int32} {v_done : Int32} {v_rowsOf : Int32} {v_columnsOf : Int32} {v_folded : Int32} {v_wronged : Int32} {v_tapeMany : Int32} {v_textMany : Int32} {v_base : Int32} {v_at : Int32} {v_ends : Int32} {v_fault : Int32} {v_opened : Int32} {v_bentMany : Int32} {v_bentWrong : Int32} {v_moreWorn : Int32} {v_planned : Int32} {v_allWrong : Int32} {v_allWorn : Int32} {v_z : Int32} {v_wishedField : Int32} {v_isFound : Bool} {v_bestWrong : Int32} {v_bestWorn : Int32} {v_bestMany : Int32} {v_soughtBy : Int32} {v_sought : Int32} {v_soughtAt : Int32} {v_foundMany : Int32} {v_foundOrder : Int32} {v_isKept : Bool} {v_imageRows : Int32} {v_imageColumns : Int32} {v_imageFolded : Int32} {v_imageWronged : Int32} {v_bodies : Int32} {v_ran : Int32} {v_ownKind : Int32} {v_ownNumber : Int32} {v_limit : List Int32} {v_changeWas : List Int32} {v_changeIs : List Int32} {v_shapeRows : List Int32} {v_shapeColumns : List Int32} {v_row : List Int32} {v_column : List Int32} {v_below : List Int32} {v_face : List Int32} {v_worn : List Int32} {v_lastBend : List Int32} {v_tape : List Int32} {v_text : List Int32} {v_names : List Int32} {v_bends : List Int32} {v_high : List Int32} {v_to : List Int32} {v_pileSize : List Int32} {v_planLine : List Int32} {v_planWay : List Int32} {v_way1 : List Int32} {v_bestWay : List Int32} {v_order1 : List Int32} {v_placeIn : List Int32} {v_bodyKind : List Int32} {v_trace : List Int32} {v_shelf : List Int32} {v_many : List Int32} {v_items : List Int64} {v_carried : List Int64} {w_shapeRows : List Int32} {w_shapeColumns : List Int32} {w_row : List Int32} {w_column : List Int32} {w_below : List Int32} {w_face : List Int32} {w_worn : List Int32} {w_lastBend : List Int32} {N d : Nat} (hd : 1 ≤ d) (hf : fX9_copies N x1 x2 v_shapeRows v_shapeColumns v_row v_column v_below v_face v_worn v_lastBend = some (w_shapeRows, w_shapeColumns, w_row, w_column, w_below, w_face, w_worn, w_lastBend)) : mm_Ct l yX9_copies cX9_copies 4 none d D (mm_T cI cL cS cH) [.ref (a 0), .int x1, .int x2] (wd_X9 cI cL cS cH a v_keptMany v_done v_rowsOf v_columnsOf v_folded v_wronged v_tapeMany v_textMany v_base v_at v_ends v_fault v_opened v_bentMany v_bentWrong v_moreWorn v_planned v_allWrong v_allWorn v_z v_wishedField v_isFound v_bestWrong v_bestWorn v_bestMany v_soughtBy v_sought v_soughtAt v_foundMany v_foundOrder v_isKept v_imageRows v_imageColumns v_imageFolded v_imageWronged v_bodies v_ran v_ownKind v_ownNumber v_limit v_changeWas v_changeIs v_shapeRows v_shapeColumns v_row v_column v_below v_face v_worn v_lastBend v_tape v_text v_names v_bends v_high v_to v_pileSize v_planLine v_planWay v_way1 v_bestWay v_order1 v_placeIn v_bodyKind v_trace v_shelf v_many v_items v_carried) (wd_X9 cI cL cS cH a v_keptMany v_done v_rowsOf v_columnsOf v_folded v_wronged v_tapeMany v_textMany v_base v_at v_ends v_fault v_opened v_bentMany v_bentWrong v_moreWorn v_planned v_allWrong v_allWorn v_z v_wishedField v_isFound v_bestWrong v_bestWorn v_bestMany v_soughtBy v_sought v_soughtAt v_foundMany v_foundOrder v_isKept v_imageRows v_imageColumns v_imageFolded v_imageWronged v_bodies v_ran v_ownKind v_ownNumber v_limit v_changeWas v_changeIs w_shapeRows w_shapeColumns w_row w_column w_below w_face w_worn w_lastBend v_tape v_text v_names v_bends v_high v_to v_pileSize v_planLine v_planWay v_way1 v_bestWay v_order1 v_placeIn v_bodyKind v_trace v_shelf v_many v_items v_carried) none := by
  refine mm_of (by decide) (Nat.le_of_ble_eq_true rfl) ?_
  intro p e s m args below meth c A H locs ls C0 hP hD hA hS hl
  have C0 : mm_Cx p s m args meth c RX9 cX9_copies 4 none D (mm_T cI cL cS cH) A := C0
  obtain ⟨hx, hb, hml, hown, hts, hr, hlocks, hK, hSt⟩ := id C0
  have hl : lv_has ls 4 [(0, .ref (a 0)), (1, .int x1), (2, .int x2)] := hl
  unfold fX9_copies at hf
  refine lv_aload_n hx hb dX9_copies_0 rfl (lv_at hl 0 rfl) ?_
  refine mm_get C0 hP iw_X9 0 rfl rfl 7 (by decide) fl_X9_19 rfl dX9_copies_1 ?_
  refine lv_iload_n hx hb dX9_copies_4 rfl (lv_at hl 2 rfl) ?_
  refine lv_aload_n hx hb dX9_copies_5 rfl (lv_at hl 0 rfl) ?_
  refine mm_get C0 hP iw_X9 0 rfl rfl 7 (by decide) fl_X9_19 rfl dX9_copies_6 ?_
  refine lv_iload_n hx hb dX9_copies_9 rfl (lv_at hl 1 rfl) ?_
  obtain ⟨h_1, hf⟩ := mm_cks hf
  refine mm_iald C0 hP 4 rfl h_1 dX9_copies_10 ?_
  refine lv_topi (fun y_2 ey_2 => ?_)
  have hf := mm_nms hf ey_2
  obtain ⟨h_3, hf⟩ := mm_cks hf
  refine mm_iast C0 hP hD hS 4 rfl h_3 dX9_copies_11 (w2 := (wd_X9 cI cL cS cH a v_keptMany v_done v_rowsOf v_columnsOf v_folded v_wronged v_tapeMany v_textMany v_base v_at v_ends v_fault v_opened v_bentMany v_bentWrong v_moreWorn v_planned v_allWrong v_allWorn v_z v_wishedField v_isFound v_bestWrong v_bestWorn v_bestMany v_soughtBy v_sought v_soughtAt v_foundMany v_foundOrder v_isKept v_imageRows v_imageColumns v_imageFolded v_imageWronged v_bodies v_ran v_ownKind v_ownNumber v_limit v_changeWas v_changeIs (mm_is v_shapeRows x2 y_2) v_shapeColumns v_row v_column v_below v_face v_worn v_lastBend v_tape v_text v_names v_bends v_high v_to v_pileSize v_planLine v_planWay v_way1 v_bestWay v_order1 v_placeIn v_bodyKind v_trace v_shelf v_many v_items v_carried)) rfl (fun H locs hP hD hS => ?_)
  generalize el_4 : (mm_is v_shapeRows x2 y_2) = l_4 at hP hD
  have hf := mm_nms hf el_4.symm
  refine lv_aload_n hx hb dX9_copies_12 rfl (lv_at hl 0 rfl) ?_
  refine mm_get C0 hP iw_X9 0 rfl rfl 8 (by decide) fl_X9_22 rfl dX9_copies_13 ?_
  refine lv_iload_n hx hb dX9_copies_16 rfl (lv_at hl 2 rfl) ?_
  refine lv_aload_n hx hb dX9_copies_17 rfl (lv_at hl 0 rfl) ?_
  refine mm_get C0 hP iw_X9 0 rfl rfl 8 (by decide) fl_X9_22 rfl dX9_copies_18 ?_
  refine lv_iload_n hx hb dX9_copies_21 rfl (lv_at hl 1 rfl) ?_
  obtain ⟨h_5, hf⟩ := mm_cks hf
  refine mm_iald C0 hP 5 rfl h_5 dX9_copies_22 ?_
  refine lv_topi (fun y_6 ey_6 => ?_)
  have hf := mm_nms hf ey_6
  obtain ⟨h_7, hf⟩ := mm_cks hf
  refine mm_iast C0 hP hD hS 5 rfl h_7 dX9_copies_23 (w2 := (wd_X9 cI cL cS cH a v_keptMany v_done v_rowsOf v_columnsOf v_folded v_wronged v_tapeMany v_textMany v_base v_at v_ends v_fault v_opened v_bentMany v_bentWrong v_moreWorn v_planned v_allWrong v_allWorn v_z v_wishedField v_isFound v_bestWrong v_bestWorn v_bestMany v_soughtBy v_sought v_soughtAt v_foundMany v_foundOrder v_isKept v_imageRows v_imageColumns v_imageFolded v_imageWronged v_bodies v_ran v_ownKind v_ownNumber v_limit v_changeWas v_changeIs l_4 (mm_is v_shapeColumns x2 y_6) v_row v_column v_below v_face v_worn v_lastBend v_tape v_text v_names v_bends v_high v_to v_pileSize v_planLine v_planWay v_way1 v_bestWay v_order1 v_placeIn v_bodyKind v_trace v_shelf v_many v_items v_carried)) rfl (fun H locs hP hD hS => ?_)
  generalize el_8 : (mm_is v_shapeColumns x2 y_6) = l_8 at hP hD
  have hf := mm_nms hf el_8.symm
  refine lv_iconst (v := 0) hx hb dX9_copies_24 (by decide) ?_
  refine lv_istore_n (lv' := [(3, .int (0 : Int32)), (0, .ref (a 0)), (1, .int x1), (2, .int x2)]) hx hb dX9_copies_25 rfl hl (by decide) rfl (fun ls hl => ?_)
  exact tX9_copies_26 hd C0 hA N  N _ _ _ _ _ _ _ _ _ _ _ H locs ls hf hP hD hS (lv_sub hl [1, 2, 3, 0] rfl)

theorem nb_dX9_halvings_0 : bls_w cX9_halvings [(0, [3]), (1, [60]), (2, [26]), (3, [61]), (4, [28]), (5, [4]), (6, [164, 0, 15]), (9, [132, 1, 1]), (12, [28]), (13, [4]), (14, [96]), (15, [5])] := bls_of (by decide +kernel)
theorem dX9_halvings_0 : decode cX9_halvings 0 = .ok (.iconst 0, 1) := op_3 nb_dX9_halvings_0.1
theorem dX9_halvings_1 : decode cX9_halvings 1 = .ok (.istore_n 1, 1) := op_60 nb_dX9_halvings_0.2.1
theorem dX9_halvings_2 : decode cX9_halvings 2 = .ok (.iload_n 0, 1) := op_26 nb_dX9_halvings_0.2.2.1
theorem dX9_halvings_3 : decode cX9_halvings 3 = .ok (.istore_n 2, 1) := op_61 nb_dX9_halvings_0.2.2.2.1
theorem dX9_halvings_4 : decode cX9_halvings 4 = .ok (.iload_n 2, 1) := op_28 nb_dX9_halvings_0.2.2.2.2.1
theorem dX9_halvings_5 : decode cX9_halvings 5 = .ok (.iconst 1, 1) := op_4 nb_dX9_halvings_0.2.2.2.2.2.1
set_option maxRecDepth 100000 in
theorem dX9_halvings_6 : decode cX9_halvings 6 = .ok (.if_icmp .le 15, 3) := (op_164 nb_dX9_halvings_0.2.2.2.2.2.2.1).trans rfl
set_option maxRecDepth 100000 in
theorem dX9_halvings_9 : decode cX9_halvings 9 = .ok (.iinc 1 1, 3) := (op_132 nb_dX9_halvings_0.2.2.2.2.2.2.2.1).trans rfl
theorem dX9_halvings_12 : decode cX9_halvings 12 = .ok (.iload_n 2, 1) := op_28 nb_dX9_halvings_0.2.2.2.2.2.2.2.2.1
theorem dX9_halvings_13 : decode cX9_halvings 13 = .ok (.iconst 1, 1) := op_4 nb_dX9_halvings_0.2.2.2.2.2.2.2.2.2.1
theorem dX9_halvings_14 : decode cX9_halvings 14 = .ok (.iadd, 1) := op_96 nb_dX9_halvings_0.2.2.2.2.2.2.2.2.2.2.1
theorem dX9_halvings_15 : decode cX9_halvings 15 = .ok (.iconst 2, 1) := op_5 nb_dX9_halvings_0.2.2.2.2.2.2.2.2.2.2.2.1
theorem nb_dX9_halvings_16 : bls_w cX9_halvings [(16, [108]), (17, [61]), (18, [167, 255, 242]), (21, [27]), (22, [172])] := bls_of (by decide +kernel)
theorem dX9_halvings_16 : decode cX9_halvings 16 = .ok (.idiv, 1) := op_108 nb_dX9_halvings_16.1
theorem dX9_halvings_17 : decode cX9_halvings 17 = .ok (.istore_n 2, 1) := op_61 nb_dX9_halvings_16.2.1
set_option maxRecDepth 100000 in
theorem dX9_halvings_18 : decode cX9_halvings 18 = .ok (.goto (-14), 3) := (op_167 nb_dX9_halvings_16.2.2.1).trans rfl
theorem dX9_halvings_21 : decode cX9_halvings 21 = .ok (.iload_n 1, 1) := op_27 nb_dX9_halvings_16.2.2.2.1
theorem dX9_halvings_22 : decode cX9_halvings 22 = .ok (.ireturn, 1) := op_172 nb_dX9_halvings_16.2.2.2.2.1
def fX9_halvings_4 (N : Nat)  : Nat → Int32 → Int32 → Option (Int32)
  | 0 => fun _ _ => none
  | n + 1 => fun x1 x2 =>
    if x2 ≤ (1 : Int32) then
    (some (x1))
    else (mm_nm (x1 + (1 : Int32)) (fun (y_2 : Int32) =>
    mm_ck (mm_nz (2 : Int32)) (mm_nm (((x2 + (1 : Int32)) / (2 : Int32))) (fun (y_4 : Int32) =>
    fX9_halvings_4 N n y_2 y_4))))

set_option maxHeartbeats 4000000 in
set_option maxRecDepth 100000 in
theorem tX9_halvings_4 {p : Program} {l : Launch} {e : Env} {s : State} {m : MethodId} {args : Array Value} {below : List Frame} {meth : Method} {c : Code} {D : va_G} {cI cL cS cH : ClassId} {A : Nat → Prop} {d : Nat} (hd : 1 ≤ d) (C0 : mm_Cx p s m args meth c RX9 cX9_halvings 3 (some .int) D (mm_T cI cL cS cH) A) (hA : ∀ q, s.heap.size ≤ q → A q)  {r : Int32} (N : Nat)  : ∀ (n : Nat), ∀ (x1 : Int32) (x2 : Int32) (H : Heap) (locs : List Loc) (ls : Array Slot), fX9_halvings_4 N n x1 x2 = some r → va_P D mm_cl ([] : va_W) H → va_D A ([] : va_W) → va_S A s.heap H locs → lv_has ls 3 [(1, .int x1), (2, .int x2)] → W p l e (mm_rr d) s m args below meth c H locs 0 0 (mm_Z below D A ([] : va_W) (some (.int r)) args s) (F0 m 4 ls []) := by
  obtain ⟨hx, hb, hml, hown, hts, hr, hlocks, hK, hSt⟩ := id C0
  intro n
  induction n with
  | zero =>
    intro x1 x2 H locs ls hf
    cases (show none = some _ from hf)
  | succ n ih =>
    intro x1 x2 H locs ls hf hP hD hS hl
    unfold fX9_halvings_4 at hf
    refine lv_iload_n hx hb dX9_halvings_4 rfl (lv_at hl 1 rfl) ?_
    refine lv_iconst (v := 1) hx hb dX9_halvings_5 (by decide) ?_
    refine lv_icmp_le (tgt := 21) hx hb dX9_halvings_6 (by decide) (fun c_1 => ?_) (fun c_1 => ?_)
    · have hf := mm_ip hf c_1
      refine lv_iload_n hx hb dX9_halvings_21 rfl (lv_at hl 0 rfl) ?_
      obtain rfl := mm_inj1 hf
      exact mm_iret C0 hP hD hS dX9_halvings_22
    · have hf := mm_in hf c_1
      obtain ⟨y_2, ey_2⟩ : ∃ z : Int32, z = x1 + (1 : Int32) := ⟨_, rfl⟩
      have hf := mm_nms hf ey_2
      refine lv_iinc (v := y_2) (lv' := [(1, .int y_2), (2, .int x2)]) hx hb dX9_halvings_9 hl (k := 0) rfl (by rw [ey_2]; rfl) (by decide) rfl (fun ls hl => ?_)
      refine lv_iload_n hx hb dX9_halvings_12 rfl (lv_at hl 1 rfl) ?_
      refine lv_iconst (v := 1) hx hb dX9_halvings_13 (by decide) ?_
      refine lv_iadd hx hb dX9_halvings_14 ?_
      refine lv_iconst (v := 2) hx hb dX9_halvings_15 (by decide) ?_
      obtain ⟨h_3, hf⟩ := mm_cks hf
      refine lv_idiv hx hb dX9_halvings_16 (mm_nzs h_3) ?_
      refine lv_topi (fun y_4 ey_4 => ?_)
      have hf := mm_nms hf ey_4
      refine lv_istore_n (lv' := [(2, .int y_4), (1, .int y_2)]) hx hb dX9_halvings_17 rfl hl (by decide) rfl (fun ls hl => ?_)
      refine lv_goto (tgt := 4) hx hb dX9_halvings_18 (by decide) ?_
      exact ih _ _ H locs ls hf hP hD hS (lv_sub hl [1, 0] rfl)

def fX9_halvings (N : Nat) (x0 : Int32) : Option (Int32) :=
    fX9_halvings_4 N N (0 : Int32) x0

set_option maxHeartbeats 4000000 in
set_option maxRecDepth 100000 in
theorem ctX9_halvings {l : Launch} {D : va_G} {cI cL cS cH : ClassId} {x0 : Int32}  {r : Int32} {N d : Nat} (hd : 1 ≤ d) (hf : fX9_halvings N x0 = some r) : mm_Ct l yX9_halvings cX9_halvings 3 (some .int) d D (mm_T cI cL cS cH) [.int x0] ([] : va_W) ([] : va_W) (some (.int r)) := by
  refine mm_of (by decide) (Nat.le_of_ble_eq_true rfl) ?_
  intro p e s m args below meth c A H locs ls C0 hP hD hA hS hl
  have C0 : mm_Cx p s m args meth c RX9 cX9_halvings 3 (some .int) D (mm_T cI cL cS cH) A := C0
  obtain ⟨hx, hb, hml, hown, hts, hr, hlocks, hK, hSt⟩ := id C0
  have hl : lv_has ls 3 [(0, .int x0)] := hl
  unfold fX9_halvings at hf
  refine lv_iconst (v := 0) hx hb dX9_halvings_0 (by decide) ?_
  refine lv_istore_n (lv' := [(1, .int (0 : Int32)), (0, .int x0)]) hx hb dX9_halvings_1 rfl hl (by decide) rfl (fun ls hl => ?_)
  refine lv_iload_n hx hb dX9_halvings_2 rfl (lv_at hl 1 rfl) ?_
  refine lv_istore_n (lv' := [(2, .int x0), (1, .int (0 : Int32)), (0, .int x0)]) hx hb dX9_halvings_3 rfl hl (by decide) rfl (fun ls hl => ?_)
  exact tX9_halvings_4 hd C0 hA N  N _ _ H locs ls hf hP hD hS (lv_sub hl [1, 0] rfl)
end
section
/-! reference: X9_ends1 -/
theorem nb_dX9_ends1_0 : bls_w cX9_ends1 [(0, [27]), (1, [4]), (2, [96]), (3, [54, 4]), (5, [42]), (6, [180, 1, 48]), (9, [155, 0, 19]), (12, [42]), (13, [21, 4]), (15, [3]), (16, [3]), (17, [182, 1, 42])] := bls_of (by decide +kernel)
theorem dX9_ends1_0 : decode cX9_ends1 0 = .ok (.iload_n 1, 1) := op_27 nb_dX9_ends1_0.1
theorem dX9_ends1_1 : decode cX9_ends1 1 = .ok (.iconst 1, 1) := op_4 nb_dX9_ends1_0.2.1
theorem dX9_ends1_2 : decode cX9_ends1 2 = .ok (.iadd, 1) := op_96 nb_dX9_ends1_0.2.2.1
set_option maxRecDepth 100000 in
theorem dX9_ends1_3 : decode cX9_ends1 3 = .ok (.istore 4, 2) := (op_54 nb_dX9_ends1_0.2.2.2.1).trans rfl
theorem dX9_ends1_5 : decode cX9_ends1 5 = .ok (.aload_n 0, 1) := op_42 nb_dX9_ends1_0.2.2.2.2.1
set_option maxRecDepth 100000 in
theorem dX9_ends1_6 : decode cX9_ends1 6 = .ok (.getfield 304, 3) := (op_180 nb_dX9_ends1_0.2.2.2.2.2.1).trans rfl
set_option maxRecDepth 100000 in
theorem dX9_ends1_9 : decode cX9_ends1 9 = .ok (.ifCond .lt 19, 3) := (op_155 nb_dX9_ends1_0.2.2.2.2.2.2.1).trans rfl
theorem dX9_ends1_12 : decode cX9_ends1 12 = .ok (.aload_n 0, 1) := op_42 nb_dX9_ends1_0.2.2.2.2.2.2.2.1
set_option maxRecDepth 100000 in
theorem dX9_ends1_13 : decode cX9_ends1 13 = .ok (.iload 4, 2) := (op_21 nb_dX9_ends1_0.2.2.2.2.2.2.2.2.1).trans rfl
theorem dX9_ends1_15 : decode cX9_ends1 15 = .ok (.iconst 0, 1) := op_3 nb_dX9_ends1_0.2.2.2.2.2.2.2.2.2.1
theorem dX9_ends1_16 : decode cX9_ends1 16 = .ok (.iconst 0, 1) := op_3 nb_dX9_ends1_0.2.2.2.2.2.2.2.2.2.2.1
set_option maxRecDepth 100000 in
theorem dX9_ends1_17 : decode cX9_ends1 17 = .ok (.invokevirtual 298, 3) := (op_182 nb_dX9_ends1_0.2.2.2.2.2.2.2.2.2.2.2.1).trans rfl
theorem nb_dX9_ends1_20 : bls_w cX9_ends1 [(20, [42]), (21, [180, 1, 48]), (24, [159, 0, 4]), (27, [177]), (28, [42]), (29, [180, 1, 51]), (32, [154, 0, 7]), (35, [4]), (36, [167, 0, 4]), (39, [3]), (40, [54, 5]), (42, [42])] := bls_of (by decide +kernel)
theorem dX9_ends1_20 : decode cX9_ends1 20 = .ok (.aload_n 0, 1) := op_42 nb_dX9_ends1_20.1
set_option maxRecDepth 100000 in
theorem dX9_ends1_21 : decode cX9_ends1 21 = .ok (.getfield 304, 3) := (op_180 nb_dX9_ends1_20.2.1).trans rfl
set_option maxRecDepth 100000 in
theorem dX9_ends1_24 : decode cX9_ends1 24 = .ok (.if_icmp .eq 4, 3) := (op_159 nb_dX9_ends1_20.2.2.1).trans rfl
theorem dX9_ends1_27 : decode cX9_ends1 27 = .ok (.return_, 1) := op_177 nb_dX9_ends1_20.2.2.2.1
theorem dX9_ends1_28 : decode cX9_ends1 28 = .ok (.aload_n 0, 1) := op_42 nb_dX9_ends1_20.2.2.2.2.1
set_option maxRecDepth 100000 in
theorem dX9_ends1_29 : decode cX9_ends1 29 = .ok (.getfield 307, 3) := (op_180 nb_dX9_ends1_20.2.2.2.2.2.1).trans rfl
set_option maxRecDepth 100000 in
theorem dX9_ends1_32 : decode cX9_ends1 32 = .ok (.ifCond .ne 7, 3) := (op_154 nb_dX9_ends1_20.2.2.2.2.2.2.1).trans rfl
theorem dX9_ends1_35 : decode cX9_ends1 35 = .ok (.iconst 1, 1) := op_4 nb_dX9_ends1_20.2.2.2.2.2.2.2.1
set_option maxRecDepth 100000 in
theorem dX9_ends1_36 : decode cX9_ends1 36 = .ok (.goto 4, 3) := (op_167 nb_dX9_ends1_20.2.2.2.2.2.2.2.2.1).trans rfl
theorem dX9_ends1_39 : decode cX9_ends1 39 = .ok (.iconst 0, 1) := op_3 nb_dX9_ends1_20.2.2.2.2.2.2.2.2.2.1
set_option maxRecDepth 100000 in
theorem dX9_ends1_40 : decode cX9_ends1 40 = .ok (.istore 5, 2) := (op_54 nb_dX9_ends1_20.2.2.2.2.2.2.2.2.2.2.1).trans rfl
theorem dX9_ends1_42 : decode cX9_ends1 42 = .ok (.aload_n 0, 1) := op_42 nb_dX9_ends1_20.2.2.2.2.2.2.2.2.2.2.2.1
theorem nb_dX9_ends1_43 : bls_w cX9_ends1 [(43, [180, 1, 51]), (46, [153, 0, 28]), (49, [42]), (50, [180, 1, 48]), (53, [155, 0, 21]), (56, [27]), (57, [42]), (58, [180, 1, 55]), (61, [162, 0, 7]), (64, [4]), (65, [167, 0, 4]), (68, [3])] := bls_of (by decide +kernel)
set_option maxRecDepth 100000 in
theorem dX9_ends1_43 : decode cX9_ends1 43 = .ok (.getfield 307, 3) := (op_180 nb_dX9_ends1_43.1).trans rfl
set_option maxRecDepth 100000 in
theorem dX9_ends1_46 : decode cX9_ends1 46 = .ok (.ifCond .eq 28, 3) := (op_153 nb_dX9_ends1_43.2.1).trans rfl
theorem dX9_ends1_49 : decode cX9_ends1 49 = .ok (.aload_n 0, 1) := op_42 nb_dX9_ends1_43.2.2.1
set_option maxRecDepth 100000 in
theorem dX9_ends1_50 : decode cX9_ends1 50 = .ok (.getfield 304, 3) := (op_180 nb_dX9_ends1_43.2.2.2.1).trans rfl
set_option maxRecDepth 100000 in
theorem dX9_ends1_53 : decode cX9_ends1 53 = .ok (.ifCond .lt 21, 3) := (op_155 nb_dX9_ends1_43.2.2.2.2.1).trans rfl
theorem dX9_ends1_56 : decode cX9_ends1 56 = .ok (.iload_n 1, 1) := op_27 nb_dX9_ends1_43.2.2.2.2.2.1
theorem dX9_ends1_57 : decode cX9_ends1 57 = .ok (.aload_n 0, 1) := op_42 nb_dX9_ends1_43.2.2.2.2.2.2.1
set_option maxRecDepth 100000 in
theorem dX9_ends1_58 : decode cX9_ends1 58 = .ok (.getfield 311, 3) := (op_180 nb_dX9_ends1_43.2.2.2.2.2.2.2.1).trans rfl
set_option maxRecDepth 100000 in
theorem dX9_ends1_61 : decode cX9_ends1 61 = .ok (.if_icmp .ge 7, 3) := (op_162 nb_dX9_ends1_43.2.2.2.2.2.2.2.2.1).trans rfl
theorem dX9_ends1_64 : decode cX9_ends1 64 = .ok (.iconst 1, 1) := op_4 nb_dX9_ends1_43.2.2.2.2.2.2.2.2.2.1
set_option maxRecDepth 100000 in
theorem dX9_ends1_65 : decode cX9_ends1 65 = .ok (.goto 4, 3) := (op_167 nb_dX9_ends1_43.2.2.2.2.2.2.2.2.2.2.1).trans rfl
theorem dX9_ends1_68 : decode cX9_ends1 68 = .ok (.iconst 0, 1) := op_3 nb_dX9_ends1_43.2.2.2.2.2.2.2.2.2.2.2.1
theorem nb_dX9_ends1_69 : bls_w cX9_ends1 [(69, [54, 5]), (71, [167, 0, 57]), (74, [42]), (75, [180, 1, 51]), (78, [153, 0, 50]), (81, [28]), (82, [42]), (83, [180, 1, 58]), (86, [161, 0, 35]), (89, [28]), (90, [42]), (91, [180, 1, 58])] := bls_of (by decide +kernel)
set_option maxRecDepth 100000 in
theorem dX9_ends1_69 : decode cX9_ends1 69 = .ok (.istore 5, 2) := (op_54 nb_dX9_ends1_69.1).trans rfl
set_option maxRecDepth 100000 in
theorem dX9_ends1_71 : decode cX9_ends1 71 = .ok (.goto 57, 3) := (op_167 nb_dX9_ends1_69.2.1).trans rfl
theorem dX9_ends1_74 : decode cX9_ends1 74 = .ok (.aload_n 0, 1) := op_42 nb_dX9_ends1_69.2.2.1
set_option maxRecDepth 100000 in
theorem dX9_ends1_75 : decode cX9_ends1 75 = .ok (.getfield 307, 3) := (op_180 nb_dX9_ends1_69.2.2.2.1).trans rfl
set_option maxRecDepth 100000 in
theorem dX9_ends1_78 : decode cX9_ends1 78 = .ok (.ifCond .eq 50, 3) := (op_153 nb_dX9_ends1_69.2.2.2.2.1).trans rfl
theorem dX9_ends1_81 : decode cX9_ends1 81 = .ok (.iload_n 2, 1) := op_28 nb_dX9_ends1_69.2.2.2.2.2.1
theorem dX9_ends1_82 : decode cX9_ends1 82 = .ok (.aload_n 0, 1) := op_42 nb_dX9_ends1_69.2.2.2.2.2.2.1
set_option maxRecDepth 100000 in
theorem dX9_ends1_83 : decode cX9_ends1 83 = .ok (.getfield 314, 3) := (op_180 nb_dX9_ends1_69.2.2.2.2.2.2.2.1).trans rfl
set_option maxRecDepth 100000 in
theorem dX9_ends1_86 : decode cX9_ends1 86 = .ok (.if_icmp .lt 35, 3) := (op_161 nb_dX9_ends1_69.2.2.2.2.2.2.2.2.1).trans rfl
theorem dX9_ends1_89 : decode cX9_ends1 89 = .ok (.iload_n 2, 1) := op_28 nb_dX9_ends1_69.2.2.2.2.2.2.2.2.2.1
theorem dX9_ends1_90 : decode cX9_ends1 90 = .ok (.aload_n 0, 1) := op_42 nb_dX9_ends1_69.2.2.2.2.2.2.2.2.2.2.1
set_option maxRecDepth 100000 in
theorem dX9_ends1_91 : decode cX9_ends1 91 = .ok (.getfield 314, 3) := (op_180 nb_dX9_ends1_69.2.2.2.2.2.2.2.2.2.2.2.1).trans rfl
theorem nb_dX9_ends1_94 : bls_w cX9_ends1 [(94, [160, 0, 31]), (97, [29]), (98, [42]), (99, [180, 1, 61]), (102, [161, 0, 19]), (105, [29]), (106, [42]), (107, [180, 1, 61]), (110, [160, 0, 15]), (113, [27]), (114, [42]), (115, [180, 1, 55])] := bls_of (by decide +kernel)
set_option maxRecDepth 100000 in
theorem dX9_ends1_94 : decode cX9_ends1 94 = .ok (.if_icmp .ne 31, 3) := (op_160 nb_dX9_ends1_94.1).trans rfl
theorem dX9_ends1_97 : decode cX9_ends1 97 = .ok (.iload_n 3, 1) := op_29 nb_dX9_ends1_94.2.1
theorem dX9_ends1_98 : decode cX9_ends1 98 = .ok (.aload_n 0, 1) := op_42 nb_dX9_ends1_94.2.2.1
set_option maxRecDepth 100000 in
theorem dX9_ends1_99 : decode cX9_ends1 99 = .ok (.getfield 317, 3) := (op_180 nb_dX9_ends1_94.2.2.2.1).trans rfl
set_option maxRecDepth 100000 in
theorem dX9_ends1_102 : decode cX9_ends1 102 = .ok (.if_icmp .lt 19, 3) := (op_161 nb_dX9_ends1_94.2.2.2.2.1).trans rfl
theorem dX9_ends1_105 : decode cX9_ends1 105 = .ok (.iload_n 3, 1) := op_29 nb_dX9_ends1_94.2.2.2.2.2.1
theorem dX9_ends1_106 : decode cX9_ends1 106 = .ok (.aload_n 0, 1) := op_42 nb_dX9_ends1_94.2.2.2.2.2.2.1
set_option maxRecDepth 100000 in
theorem dX9_ends1_107 : decode cX9_ends1 107 = .ok (.getfield 317, 3) := (op_180 nb_dX9_ends1_94.2.2.2.2.2.2.2.1).trans rfl
set_option maxRecDepth 100000 in
theorem dX9_ends1_110 : decode cX9_ends1 110 = .ok (.if_icmp .ne 15, 3) := (op_160 nb_dX9_ends1_94.2.2.2.2.2.2.2.2.1).trans rfl
theorem dX9_ends1_113 : decode cX9_ends1 113 = .ok (.iload_n 1, 1) := op_27 nb_dX9_ends1_94.2.2.2.2.2.2.2.2.2.1
theorem dX9_ends1_114 : decode cX9_ends1 114 = .ok (.aload_n 0, 1) := op_42 nb_dX9_ends1_94.2.2.2.2.2.2.2.2.2.2.1
set_option maxRecDepth 100000 in
theorem dX9_ends1_115 : decode cX9_ends1 115 = .ok (.getfield 311, 3) := (op_180 nb_dX9_ends1_94.2.2.2.2.2.2.2.2.2.2.2.1).trans rfl
theorem nb_dX9_ends1_118 : bls_w cX9_ends1 [(118, [162, 0, 7]), (121, [4]), (122, [167, 0, 4]), (125, [3]), (126, [54, 5]), (128, [21, 5]), (130, [154, 0, 4]), (133, [177]), (134, [42]), (135, [4]), (136, [181, 1, 51]), (139, [42])] := bls_of (by decide +kernel)
set_option maxRecDepth 100000 in
theorem dX9_ends1_118 : decode cX9_ends1 118 = .ok (.if_icmp .ge 7, 3) := (op_162 nb_dX9_ends1_118.1).trans rfl
theorem dX9_ends1_121 : decode cX9_ends1 121 = .ok (.iconst 1, 1) := op_4 nb_dX9_ends1_118.2.1
set_option maxRecDepth 100000 in
theorem dX9_ends1_122 : decode cX9_ends1 122 = .ok (.goto 4, 3) := (op_167 nb_dX9_ends1_118.2.2.1).trans rfl
theorem dX9_ends1_125 : decode cX9_ends1 125 = .ok (.iconst 0, 1) := op_3 nb_dX9_ends1_118.2.2.2.1
set_option maxRecDepth 100000 in
theorem dX9_ends1_126 : decode cX9_ends1 126 = .ok (.istore 5, 2) := (op_54 nb_dX9_ends1_118.2.2.2.2.1).trans rfl
set_option maxRecDepth 100000 in
theorem dX9_ends1_128 : decode cX9_ends1 128 = .ok (.iload 5, 2) := (op_21 nb_dX9_ends1_118.2.2.2.2.2.1).trans rfl
set_option maxRecDepth 100000 in
theorem dX9_ends1_130 : decode cX9_ends1 130 = .ok (.ifCond .ne 4, 3) := (op_154 nb_dX9_ends1_118.2.2.2.2.2.2.1).trans rfl
theorem dX9_ends1_133 : decode cX9_ends1 133 = .ok (.return_, 1) := op_177 nb_dX9_ends1_118.2.2.2.2.2.2.2.1
theorem dX9_ends1_134 : decode cX9_ends1 134 = .ok (.aload_n 0, 1) := op_42 nb_dX9_ends1_118.2.2.2.2.2.2.2.2.1
theorem dX9_ends1_135 : decode cX9_ends1 135 = .ok (.iconst 1, 1) := op_4 nb_dX9_ends1_118.2.2.2.2.2.2.2.2.2.1
set_option maxRecDepth 100000 in
theorem dX9_ends1_136 : decode cX9_ends1 136 = .ok (.putfield 307, 3) := (op_181 nb_dX9_ends1_118.2.2.2.2.2.2.2.2.2.2.1).trans rfl
theorem dX9_ends1_139 : decode cX9_ends1 139 = .ok (.aload_n 0, 1) := op_42 nb_dX9_ends1_118.2.2.2.2.2.2.2.2.2.2.2.1
theorem nb_dX9_ends1_140 : bls_w cX9_ends1 [(140, [28]), (141, [181, 1, 58]), (144, [42]), (145, [29]), (146, [181, 1, 61]), (149, [42]), (150, [27]), (151, [181, 1, 55]), (154, [3]), (155, [54, 6]), (157, [21, 6]), (159, [27])] := bls_of (by decide +kernel)
theorem dX9_ends1_140 : decode cX9_ends1 140 = .ok (.iload_n 2, 1) := op_28 nb_dX9_ends1_140.1
set_option maxRecDepth 100000 in
theorem dX9_ends1_141 : decode cX9_ends1 141 = .ok (.putfield 314, 3) := (op_181 nb_dX9_ends1_140.2.1).trans rfl
theorem dX9_ends1_144 : decode cX9_ends1 144 = .ok (.aload_n 0, 1) := op_42 nb_dX9_ends1_140.2.2.1
theorem dX9_ends1_145 : decode cX9_ends1 145 = .ok (.iload_n 3, 1) := op_29 nb_dX9_ends1_140.2.2.2.1
set_option maxRecDepth 100000 in
theorem dX9_ends1_146 : decode cX9_ends1 146 = .ok (.putfield 317, 3) := (op_181 nb_dX9_ends1_140.2.2.2.2.1).trans rfl
theorem dX9_ends1_149 : decode cX9_ends1 149 = .ok (.aload_n 0, 1) := op_42 nb_dX9_ends1_140.2.2.2.2.2.1
theorem dX9_ends1_150 : decode cX9_ends1 150 = .ok (.iload_n 1, 1) := op_27 nb_dX9_ends1_140.2.2.2.2.2.2.1
set_option maxRecDepth 100000 in
theorem dX9_ends1_151 : decode cX9_ends1 151 = .ok (.putfield 311, 3) := (op_181 nb_dX9_ends1_140.2.2.2.2.2.2.2.1).trans rfl
theorem dX9_ends1_154 : decode cX9_ends1 154 = .ok (.iconst 0, 1) := op_3 nb_dX9_ends1_140.2.2.2.2.2.2.2.2.1
set_option maxRecDepth 100000 in
theorem dX9_ends1_155 : decode cX9_ends1 155 = .ok (.istore 6, 2) := (op_54 nb_dX9_ends1_140.2.2.2.2.2.2.2.2.2.1).trans rfl
set_option maxRecDepth 100000 in
theorem dX9_ends1_157 : decode cX9_ends1 157 = .ok (.iload 6, 2) := (op_21 nb_dX9_ends1_140.2.2.2.2.2.2.2.2.2.2.1).trans rfl
theorem dX9_ends1_159 : decode cX9_ends1 159 = .ok (.iload_n 1, 1) := op_27 nb_dX9_ends1_140.2.2.2.2.2.2.2.2.2.2.2.1
theorem nb_dX9_ends1_160 : bls_w cX9_ends1 [(160, [162, 0, 23]), (163, [42]), (164, [180, 0, 73]), (167, [21, 6]), (169, [42]), (170, [180, 0, 70]), (173, [21, 6]), (175, [46]), (176, [79]), (177, [132, 6, 1]), (180, [167, 255, 233]), (183, [177])] := bls_of (by decide +kernel)
set_option maxRecDepth 100000 in
theorem dX9_ends1_160 : decode cX9_ends1 160 = .ok (.if_icmp .ge 23, 3) := (op_162 nb_dX9_ends1_160.1).trans rfl
theorem dX9_ends1_163 : decode cX9_ends1 163 = .ok (.aload_n 0, 1) := op_42 nb_dX9_ends1_160.2.1
set_option maxRecDepth 100000 in
theorem dX9_ends1_164 : decode cX9_ends1 164 = .ok (.getfield 73, 3) := (op_180 nb_dX9_ends1_160.2.2.1).trans rfl
set_option maxRecDepth 100000 in
theorem dX9_ends1_167 : decode cX9_ends1 167 = .ok (.iload 6, 2) := (op_21 nb_dX9_ends1_160.2.2.2.1).trans rfl
theorem dX9_ends1_169 : decode cX9_ends1 169 = .ok (.aload_n 0, 1) := op_42 nb_dX9_ends1_160.2.2.2.2.1
set_option maxRecDepth 100000 in
theorem dX9_ends1_170 : decode cX9_ends1 170 = .ok (.getfield 70, 3) := (op_180 nb_dX9_ends1_160.2.2.2.2.2.1).trans rfl
set_option maxRecDepth 100000 in
theorem dX9_ends1_173 : decode cX9_ends1 173 = .ok (.iload 6, 2) := (op_21 nb_dX9_ends1_160.2.2.2.2.2.2.1).trans rfl
theorem dX9_ends1_175 : decode cX9_ends1 175 = .ok (.iaload, 1) := op_46 nb_dX9_ends1_160.2.2.2.2.2.2.2.1
theorem dX9_ends1_176 : decode cX9_ends1 176 = .ok (.iastore, 1) := op_79 nb_dX9_ends1_160.2.2.2.2.2.2.2.2.1
set_option maxRecDepth 100000 in
theorem dX9_ends1_177 : decode cX9_ends1 177 = .ok (.iinc 6 1, 3) := (op_132 nb_dX9_ends1_160.2.2.2.2.2.2.2.2.2.1).trans rfl
set_option maxRecDepth 100000 in
theorem dX9_ends1_180 : decode cX9_ends1 180 = .ok (.goto (-23), 3) := (op_167 nb_dX9_ends1_160.2.2.2.2.2.2.2.2.2.2.1).trans rfl
theorem dX9_ends1_183 : decode cX9_ends1 183 = .ok (.return_, 1) := op_177 nb_dX9_ends1_160.2.2.2.2.2.2.2.2.2.2.2.1
def fX9_ends1_157 (N : Nat)  : Nat → Int32 → Int32 → Int32 → Int32 → Int32 → Bool → Int32 → Int32 → Int32 → List Int32 → List Int32 → List Int32 → List Int32 → List Int32 → Option (Bool × Int32 × Int32 × Int32 × List Int32)
  | 0 => fun _ _ _ _ _ _ _ _ _ _ _ _ _ _ => none
  | n + 1 => fun x1 x6 v_rowsOf v_columnsOf v_wishedField v_isFound v_bestWrong v_bestWorn v_bestMany v_row v_column v_below v_way1 v_bestWay =>
    if x1 ≤ x6 then
    (some (v_isFound, v_bestWrong, v_bestWorn, v_bestMany, v_bestWay))
    else (mm_ck (mm_inb x6 v_way1.length) (mm_nm ((mm_ig v_way1 x6)) (fun (y_13 : Int32) =>
    mm_ck (mm_inb x6 v_bestWay.length) (mm_nm (mm_is v_bestWay x6 y_13) (fun (l_15 : List Int32) =>
    mm_nm (x6 + (1 : Int32)) (fun (y_16 : Int32) =>
    fX9_ends1_157 N n x1 y_16 v_rowsOf v_columnsOf v_wishedField v_isFound v_bestWrong v_bestWorn v_bestMany v_row v_column v_below v_way1 l_15))))))

set_option maxHeartbeats 4000000 in
set_option maxRecDepth 100000 in
theorem tX9_ends1_157 {p : Program} {l : Launch} {e : Env} {s : State} {m : MethodId} {args : Array Value} {below : List Frame} {meth : Method} {c : Code} {D : va_G} {cI cL cS cH : ClassId} {A : Nat → Prop} {d : Nat} {a : Nat → Nat} (hd : 4 ≤ d) (C0 : mm_Cx p s m args meth c RX9 cX9_ends1 7 none D (mm_T cI cL cS cH) A) (hA : ∀ q, s.heap.size ≤ q → A q) {v_keptMany : Int32} {v_done : Int32} {v_folded : Int32} {v_wronged : Int32} {v_tapeMany : Int32} {v_textMany : Int32} {v_base : Int32} {v_at : Int32} {v_ends : Int32} {v_fault : Int32} {v_opened : Int32} {v_bentMany : Int32} {v_bentWrong : Int32} {v_moreWorn : Int32} {v_planned : Int32} {v_allWrong : Int32} {v_allWorn : Int32} {v_z : Int32} {v_soughtBy : Int32} {v_sought : Int32} {v_soughtAt : Int32} {v_foundMany : Int32} {v_foundOrder : Int32} {v_isKept : Bool} {v_imageRows : Int32} {v_imageColumns : Int32} {v_imageFolded : Int32} {v_imageWronged : Int32} {v_bodies : Int32} {v_ran : Int32} {v_ownKind : Int32} {v_ownNumber : Int32} {v_limit : List Int32} {v_changeWas : List Int32} {v_changeIs : List Int32} {v_shapeRows : List Int32} {v_shapeColumns : List Int32} {v_face : List Int32} {v_worn : List Int32} {v_lastBend : List Int32} {v_tape : List Int32} {v_text : List Int32} {v_names : List Int32} {v_bends : List Int32} {v_high : List Int32} {v_to : List Int32} {v_pileSize : List Int32} {v_planLine : List Int32} {v_planWay : List Int32} {v_order1 : List Int32} {v_placeIn : List Int32} {v_bodyKind : List Int32} {v_trace : List Int32} {v_shelf : List Int32} {v_many : List Int32} {v_items : List Int64} {v_carried : List Int64} {w_isFound : Bool} {w_bestWrong : Int32} {w_bestWorn : Int32} {w_bestMany : Int32} {w_bestWay : List Int32} (N : Nat)  : ∀ (n : Nat), ∀ (x1 : Int32) (x6 : Int32) (v_rowsOf : Int32) (v_columnsOf : Int32) (v_wishedField : Int32) (v_isFound : Bool) (v_bestWrong : Int32) (v_bestWorn : Int32) (v_bestMany : Int32) (v_row : List Int32) (v_column : List Int32) (v_below : List Int32) (v_way1 : List Int32) (v_bestWay : List Int32) (H : Heap) (locs : List Loc) (ls : Array Slot), fX9_ends1_157 N n x1 x6 v_rowsOf v_columnsOf v_wishedField v_isFound v_bestWrong v_bestWorn v_bestMany v_row v_column v_below v_way1 v_bestWay = some (w_isFound, w_bestWrong, w_bestWorn, w_bestMany, w_bestWay) → va_P D mm_cl (wd_X9 cI cL cS cH a v_keptMany v_done v_rowsOf v_columnsOf v_folded v_wronged v_tapeMany v_textMany v_base v_at v_ends v_fault v_opened v_bentMany v_bentWrong v_moreWorn v_planned v_allWrong v_allWorn v_z v_wishedField v_isFound v_bestWrong v_bestWorn v_bestMany v_soughtBy v_sought v_soughtAt v_foundMany v_foundOrder v_isKept v_imageRows v_imageColumns v_imageFolded v_imageWronged v_bodies v_ran v_ownKind v_ownNumber v_limit v_changeWas v_changeIs v_shapeRows v_shapeColumns v_row v_column v_below v_face v_worn v_lastBend v_tape v_text v_names v_bends v_high v_to v_pileSize v_planLine v_planWay v_way1 v_bestWay v_order1 v_placeIn v_bodyKind v_trace v_shelf v_many v_items v_carried) H → va_D A (wd_X9 cI cL cS cH a v_keptMany v_done v_rowsOf v_columnsOf v_folded v_wronged v_tapeMany v_textMany v_base v_at v_ends v_fault v_opened v_bentMany v_bentWrong v_moreWorn v_planned v_allWrong v_allWorn v_z v_wishedField v_isFound v_bestWrong v_bestWorn v_bestMany v_soughtBy v_sought v_soughtAt v_foundMany v_foundOrder v_isKept v_imageRows v_imageColumns v_imageFolded v_imageWronged v_bodies v_ran v_ownKind v_ownNumber v_limit v_changeWas v_changeIs v_shapeRows v_shapeColumns v_row v_column v_below v_face v_worn v_lastBend v_tape v_text v_names v_bends v_high v_to v_pileSize v_planLine v_planWay v_way1 v_bestWay v_order1 v_placeIn v_bodyKind v_trace v_shelf v_many v_items v_carried) → va_S A s.heap H locs → lv_has ls 7 [(0, .ref (a 0)), (1, .int x1), (6, .int x6)] → W p l e (mm_rr d) s m args below meth c H locs 0 0 (mm_Z below D A (wd_X9 cI cL cS cH a v_keptMany v_done v_rowsOf v_columnsOf v_folded v_wronged v_tapeMany v_textMany v_base v_at v_ends v_fault v_opened v_bentMany v_bentWrong v_moreWorn v_planned v_allWrong v_allWorn v_z v_wishedField w_isFound w_bestWrong w_bestWorn w_bestMany v_soughtBy v_sought v_soughtAt v_foundMany v_foundOrder v_isKept v_imageRows v_imageColumns v_imageFolded v_imageWronged v_bodies v_ran v_ownKind v_ownNumber v_limit v_changeWas v_changeIs v_shapeRows v_shapeColumns v_row v_column v_below v_face v_worn v_lastBend v_tape v_text v_names v_bends v_high v_to v_pileSize v_planLine v_planWay v_way1 w_bestWay v_order1 v_placeIn v_bodyKind v_trace v_shelf v_many v_items v_carried) none args s) (F0 m 157 ls []) := by
  obtain ⟨hx, hb, hml, hown, hts, hr, hlocks, hK, hSt⟩ := id C0
  intro n
  induction n with
  | zero =>
    intro x1 x6 v_rowsOf v_columnsOf v_wishedField v_isFound v_bestWrong v_bestWorn v_bestMany v_row v_column v_below v_way1 v_bestWay H locs ls hf
    cases (show none = some _ from hf)
  | succ n ih =>
    intro x1 x6 v_rowsOf v_columnsOf v_wishedField v_isFound v_bestWrong v_bestWorn v_bestMany v_row v_column v_below v_way1 v_bestWay H locs ls hf hP hD hS hl
    unfold fX9_ends1_157 at hf
    refine lv_iload hx hb dX9_ends1_157 (lv_at hl 2 rfl) ?_
    refine lv_iload_n hx hb dX9_ends1_159 rfl (lv_at hl 1 rfl) ?_
    refine lv_icmp_ge (tgt := 183) hx hb dX9_ends1_160 (by decide) (fun c_11 => ?_) (fun c_11 => ?_)
    · have hf := mm_ip hf c_11
      apply mm_sub5 hf
      exact mm_vret C0 hP hD hS dX9_ends1_183
    · have hf := mm_in hf c_11
      refine lv_aload_n hx hb dX9_ends1_163 rfl (lv_at hl 0 rfl) ?_
      refine mm_get C0 hP iw_X9 0 rfl rfl 42 (by decide) fl_X9_73 rfl dX9_ends1_164 ?_
      refine lv_iload hx hb dX9_ends1_167 (lv_at hl 2 rfl) ?_
      refine lv_aload_n hx hb dX9_ends1_169 rfl (lv_at hl 0 rfl) ?_
      refine mm_get C0 hP iw_X9 0 rfl rfl 41 (by decide) fl_X9_70 rfl dX9_ends1_170 ?_
      refine lv_iload hx hb dX9_ends1_173 (lv_at hl 2 rfl) ?_
      obtain ⟨h_12, hf⟩ := mm_cks hf
      refine mm_iald C0 hP 21 rfl h_12 dX9_ends1_175 ?_
      refine lv_topi (fun y_13 ey_13 => ?_)
      have hf := mm_nms hf ey_13
      obtain ⟨h_14, hf⟩ := mm_cks hf
      refine mm_iast C0 hP hD hS 22 rfl h_14 dX9_ends1_176 (w2 := (wd_X9 cI cL cS cH a v_keptMany v_done v_rowsOf v_columnsOf v_folded v_wronged v_tapeMany v_textMany v_base v_at v_ends v_fault v_opened v_bentMany v_bentWrong v_moreWorn v_planned v_allWrong v_allWorn v_z v_wishedField v_isFound v_bestWrong v_bestWorn v_bestMany v_soughtBy v_sought v_soughtAt v_foundMany v_foundOrder v_isKept v_imageRows v_imageColumns v_imageFolded v_imageWronged v_bodies v_ran v_ownKind v_ownNumber v_limit v_changeWas v_changeIs v_shapeRows v_shapeColumns v_row v_column v_below v_face v_worn v_lastBend v_tape v_text v_names v_bends v_high v_to v_pileSize v_planLine v_planWay v_way1 (mm_is v_bestWay x6 y_13) v_order1 v_placeIn v_bodyKind v_trace v_shelf v_many v_items v_carried)) rfl (fun H locs hP hD hS => ?_)
      generalize el_15 : (mm_is v_bestWay x6 y_13) = l_15 at hP hD
      have hf := mm_nms hf el_15.symm
      obtain ⟨y_16, ey_16⟩ : ∃ z : Int32, z = x6 + (1 : Int32) := ⟨_, rfl⟩
      have hf := mm_nms hf ey_16
      refine lv_iinc (v := y_16) (lv' := [(6, .int y_16), (0, .ref (a 0)), (1, .int x1)]) hx hb dX9_ends1_177 hl (k := 2) rfl (by rw [ey_16]; rfl) (by decide) rfl (fun ls hl => ?_)
      refine lv_goto (tgt := 157) hx hb dX9_ends1_180 (by decide) ?_
      exact ih _ _ _ _ _ _ _ _ _ _ _ _ _ _ H locs ls hf hP hD hS (lv_sub hl [1, 2, 0] rfl)

def fX9_ends1_128 (N : Nat)  (x1 : Int32) (x2 : Int32) (x3 : Int32) (x5 : Int32) (v_rowsOf : Int32) (v_columnsOf : Int32) (v_wishedField : Int32) (v_isFound : Bool) (v_bestWrong : Int32) (v_bestWorn : Int32) (v_bestMany : Int32) (v_row : List Int32) (v_column : List Int32) (v_below : List Int32) (v_way1 : List Int32) (v_bestWay : List Int32) : Option (Bool × Int32 × Int32 × Int32 × List Int32) :=
    if x5 = 0 then
    (some (v_isFound, v_bestWrong, v_bestWorn, v_bestMany, v_bestWay))
    else (fX9_ends1_157 N N x1 (0 : Int32) v_rowsOf v_columnsOf v_wishedField true x2 x3 x1 v_row v_column v_below v_way1 v_bestWay)

set_option maxHeartbeats 4000000 in
set_option maxRecDepth 100000 in
theorem tX9_ends1_128 {p : Program} {l : Launch} {e : Env} {s : State} {m : MethodId} {args : Array Value} {below : List Frame} {meth : Method} {c : Code} {D : va_G} {cI cL cS cH : ClassId} {A : Nat → Prop} {d : Nat} {a : Nat → Nat} (hd : 4 ≤ d) (C0 : mm_Cx p s m args meth c RX9 cX9_ends1 7 none D (mm_T cI cL cS cH) A) (hA : ∀ q, s.heap.size ≤ q → A q) {v_keptMany : Int32} {v_done : Int32} {v_folded : Int32} {v_wronged : Int32} {v_tapeMany : Int32} {v_textMany : Int32} {v_base : Int32} {v_at : Int32} {v_ends : Int32} {v_fault : Int32} {v_opened : Int32} {v_bentMany : Int32} {v_bentWrong : Int32} {v_moreWorn : Int32} {v_planned : Int32} {v_allWrong : Int32} {v_allWorn : Int32} {v_z : Int32} {v_soughtBy : Int32} {v_sought : Int32} {v_soughtAt : Int32} {v_foundMany : Int32} {v_foundOrder : Int32} {v_isKept : Bool} {v_imageRows : Int32} {v_imageColumns : Int32} {v_imageFolded : Int32} {v_imageWronged : Int32} {v_bodies : Int32} {v_ran : Int32} {v_ownKind : Int32} {v_ownNumber : Int32} {v_limit : List Int32} {v_changeWas : List Int32} {v_changeIs : List Int32} {v_shapeRows : List Int32} {v_shapeColumns : List Int32} {v_face : List Int32} {v_worn : List Int32} {v_lastBend : List Int32} {v_tape : List Int32} {v_text : List Int32} {v_names : List Int32} {v_bends : List Int32} {v_high : List Int32} {v_to : List Int32} {v_pileSize : List Int32} {v_planLine : List Int32} {v_planWay : List Int32} {v_order1 : List Int32} {v_placeIn : List Int32} {v_bodyKind : List Int32} {v_trace : List Int32} {v_shelf : List Int32} {v_many : List Int32} {v_items : List Int64} {v_carried : List Int64} {w_isFound : Bool} {w_bestWrong : Int32} {w_bestWorn : Int32} {w_bestMany : Int32} {w_bestWay : List Int32} (N : Nat)  : ∀ (x1 : Int32) (x2 : Int32) (x3 : Int32) (x5 : Int32) (v_rowsOf : Int32) (v_columnsOf : Int32) (v_wishedField : Int32) (v_isFound : Bool) (v_bestWrong : Int32) (v_bestWorn : Int32) (v_bestMany : Int32) (v_row : List Int32) (v_column : List Int32) (v_below : List Int32) (v_way1 : List Int32) (v_bestWay : List Int32) (H : Heap) (locs : List Loc) (ls : Array Slot), fX9_ends1_128 N x1 x2 x3 x5 v_rowsOf v_columnsOf v_wishedField v_isFound v_bestWrong v_bestWorn v_bestMany v_row v_column v_below v_way1 v_bestWay = some (w_isFound, w_bestWrong, w_bestWorn, w_bestMany, w_bestWay) → va_P D mm_cl (wd_X9 cI cL cS cH a v_keptMany v_done v_rowsOf v_columnsOf v_folded v_wronged v_tapeMany v_textMany v_base v_at v_ends v_fault v_opened v_bentMany v_bentWrong v_moreWorn v_planned v_allWrong v_allWorn v_z v_wishedField v_isFound v_bestWrong v_bestWorn v_bestMany v_soughtBy v_sought v_soughtAt v_foundMany v_foundOrder v_isKept v_imageRows v_imageColumns v_imageFolded v_imageWronged v_bodies v_ran v_ownKind v_ownNumber v_limit v_changeWas v_changeIs v_shapeRows v_shapeColumns v_row v_column v_below v_face v_worn v_lastBend v_tape v_text v_names v_bends v_high v_to v_pileSize v_planLine v_planWay v_way1 v_bestWay v_order1 v_placeIn v_bodyKind v_trace v_shelf v_many v_items v_carried) H → va_D A (wd_X9 cI cL cS cH a v_keptMany v_done v_rowsOf v_columnsOf v_folded v_wronged v_tapeMany v_textMany v_base v_at v_ends v_fault v_opened v_bentMany v_bentWrong v_moreWorn v_planned v_allWrong v_allWorn v_z v_wishedField v_isFound v_bestWrong v_bestWorn v_bestMany v_soughtBy v_sought v_soughtAt v_foundMany v_foundOrder v_isKept v_imageRows v_imageColumns v_imageFolded v_imageWronged v_bodies v_ran v_ownKind v_ownNumber v_limit v_changeWas v_changeIs v_shapeRows v_shapeColumns v_row v_column v_below v_face v_worn v_lastBend v_tape v_text v_names v_bends v_high v_to v_pileSize v_planLine v_planWay v_way1 v_bestWay v_order1 v_placeIn v_bodyKind v_trace v_shelf v_many v_items v_carried) → va_S A s.heap H locs → lv_has ls 7 [(0, .ref (a 0)), (1, .int x1), (2, .int x2), (3, .int x3), (5, .int x5)] → W p l e (mm_rr d) s m args below meth c H locs 0 0 (mm_Z below D A (wd_X9 cI cL cS cH a v_keptMany v_done v_rowsOf v_columnsOf v_folded v_wronged v_tapeMany v_textMany v_base v_at v_ends v_fault v_opened v_bentMany v_bentWrong v_moreWorn v_planned v_allWrong v_allWorn v_z v_wishedField w_isFound w_bestWrong w_bestWorn w_bestMany v_soughtBy v_sought v_soughtAt v_foundMany v_foundOrder v_isKept v_imageRows v_imageColumns v_imageFolded v_imageWronged v_bodies v_ran v_ownKind v_ownNumber v_limit v_changeWas v_changeIs v_shapeRows v_shapeColumns v_row v_column v_below v_face v_worn v_lastBend v_tape v_text v_names v_bends v_high v_to v_pileSize v_planLine v_planWay v_way1 w_bestWay v_order1 v_placeIn v_bodyKind v_trace v_shelf v_many v_items v_carried) none args s) (F0 m 128 ls []) := by
  obtain ⟨hx, hb, hml, hown, hts, hr, hlocks, hK, hSt⟩ := id C0
  intro x1 x2 x3 x5 v_rowsOf v_columnsOf v_wishedField v_isFound v_bestWrong v_bestWorn v_bestMany v_row v_column v_below v_way1 v_bestWay H locs ls hf hP hD hS hl
  unfold fX9_ends1_128 at hf
  refine lv_iload hx hb dX9_ends1_128 (lv_at hl 4 rfl) ?_
  refine lv_if_ne (tgt := 134) hx hb dX9_ends1_130 (by decide) (fun c_10 => ?_) (fun c_10 => ?_)
  · have hf := mm_in hf c_10
    refine lv_aload_n hx hb dX9_ends1_134 rfl (lv_at hl 0 rfl) ?_
    refine lv_iconst (v := 1) hx hb dX9_ends1_135 (by decide) ?_
    refine mm_put C0 hP hD hS iw_X9 tyX9 tyX9_ok nmX9 0 rfl rfl 43 (by decide) fl_X9_307 rfl (v := .int (mm_b true)) mm_bn mm_bf (Nat.le_of_ble_eq_true rfl) dX9_ends1_136 (w2 := (wd_X9 cI cL cS cH a v_keptMany v_done v_rowsOf v_columnsOf v_folded v_wronged v_tapeMany v_textMany v_base v_at v_ends v_fault v_opened v_bentMany v_bentWrong v_moreWorn v_planned v_allWrong v_allWorn v_z v_wishedField true v_bestWrong v_bestWorn v_bestMany v_soughtBy v_sought v_soughtAt v_foundMany v_foundOrder v_isKept v_imageRows v_imageColumns v_imageFolded v_imageWronged v_bodies v_ran v_ownKind v_ownNumber v_limit v_changeWas v_changeIs v_shapeRows v_shapeColumns v_row v_column v_below v_face v_worn v_lastBend v_tape v_text v_names v_bends v_high v_to v_pileSize v_planLine v_planWay v_way1 v_bestWay v_order1 v_placeIn v_bodyKind v_trace v_shelf v_many v_items v_carried)) rfl (fun H locs hP hD hS => ?_)
    refine lv_aload_n hx hb dX9_ends1_139 rfl (lv_at hl 0 rfl) ?_
    refine lv_iload_n hx hb dX9_ends1_140 rfl (lv_at hl 2 rfl) ?_
    refine mm_put C0 hP hD hS iw_X9 tyX9 tyX9_ok nmX9 0 rfl rfl 44 (by decide) fl_X9_314 rfl rfl rfl (Nat.le_of_ble_eq_true rfl) dX9_ends1_141 (w2 := (wd_X9 cI cL cS cH a v_keptMany v_done v_rowsOf v_columnsOf v_folded v_wronged v_tapeMany v_textMany v_base v_at v_ends v_fault v_opened v_bentMany v_bentWrong v_moreWorn v_planned v_allWrong v_allWorn v_z v_wishedField true x2 v_bestWorn v_bestMany v_soughtBy v_sought v_soughtAt v_foundMany v_foundOrder v_isKept v_imageRows v_imageColumns v_imageFolded v_imageWronged v_bodies v_ran v_ownKind v_ownNumber v_limit v_changeWas v_changeIs v_shapeRows v_shapeColumns v_row v_column v_below v_face v_worn v_lastBend v_tape v_text v_names v_bends v_high v_to v_pileSize v_planLine v_planWay v_way1 v_bestWay v_order1 v_placeIn v_bodyKind v_trace v_shelf v_many v_items v_carried)) rfl (fun H locs hP hD hS => ?_)
    refine lv_aload_n hx hb dX9_ends1_144 rfl (lv_at hl 0 rfl) ?_
    refine lv_iload_n hx hb dX9_ends1_145 rfl (lv_at hl 3 rfl) ?_
    refine mm_put C0 hP hD hS iw_X9 tyX9 tyX9_ok nmX9 0 rfl rfl 45 (by decide) fl_X9_317 rfl rfl rfl (Nat.le_of_ble_eq_true rfl) dX9_ends1_146 (w2 := (wd_X9 cI cL cS cH a v_keptMany v_done v_rowsOf v_columnsOf v_folded v_wronged v_tapeMany v_textMany v_base v_at v_ends v_fault v_opened v_bentMany v_bentWrong v_moreWorn v_planned v_allWrong v_allWorn v_z v_wishedField true x2 x3 v_bestMany v_soughtBy v_sought v_soughtAt v_foundMany v_foundOrder v_isKept v_imageRows v_imageColumns v_imageFolded v_imageWronged v_bodies v_ran v_ownKind v_ownNumber v_limit v_changeWas v_changeIs v_shapeRows v_shapeColumns v_row v_column v_below v_face v_worn v_lastBend v_tape v_text v_names v_bends v_high v_to v_pileSize v_planLine v_planWay v_way1 v_bestWay v_order1 v_placeIn v_bodyKind v_trace v_shelf v_many v_items v_carried)) rfl (fun H locs hP hD hS => ?_)
    refine lv_aload_n hx hb dX9_ends1_149 rfl (lv_at hl 0 rfl) ?_
    refine lv_iload_n hx hb dX9_ends1_150 rfl (lv_at hl 1 rfl) ?_
    refine mm_put C0 hP hD hS iw_X9 tyX9 tyX9_ok nmX9 0 rfl rfl 46 (by decide) fl_X9_311 rfl rfl rfl (Nat.le_of_ble_eq_true rfl) dX9_ends1_151 (w2 := (wd_X9 cI cL cS cH a v_keptMany v_done v_rowsOf v_columnsOf v_folded v_wronged v_tapeMany v_textMany v_base v_at v_ends v_fault v_opened v_bentMany v_bentWrong v_moreWorn v_planned v_allWrong v_allWorn v_z v_wishedField true x2 x3 x1 v_soughtBy v_sought v_soughtAt v_foundMany v_foundOrder v_isKept v_imageRows v_imageColumns v_imageFolded v_imageWronged v_bodies v_ran v_ownKind v_ownNumber v_limit v_changeWas v_changeIs v_shapeRows v_shapeColumns v_row v_column v_below v_face v_worn v_lastBend v_tape v_text v_names v_bends v_high v_to v_pileSize v_planLine v_planWay v_way1 v_bestWay v_order1 v_placeIn v_bodyKind v_trace v_shelf v_many v_items v_carried)) rfl (fun H locs hP hD hS => ?_)
    refine lv_iconst (v := 0) hx hb dX9_ends1_154 (by decide) ?_
    refine lv_istore (lv' := [(6, .int (0 : Int32)), (0, .ref (a 0)), (1, .int x1), (2, .int x2), (3, .int x3), (5, .int x5)]) hx hb dX9_ends1_155 hl (by decide) rfl (fun ls hl => ?_)
    exact tX9_ends1_157 hd C0 hA N  N _ _ _ _ _ _ _ _ _ _ _ _ _ _ H locs ls hf hP hD hS (lv_sub hl [1, 2, 0] rfl)
  · have hf := mm_ip hf c_10
    apply mm_sub5 hf
    exact mm_vret C0 hP hD hS dX9_ends1_133

def fX9_ends1_69 (N : Nat)  (x1 : Int32) (x2 : Int32) (x3 : Int32) (s0 : Int32) (v_rowsOf : Int32) (v_columnsOf : Int32) (v_wishedField : Int32) (v_isFound : Bool) (v_bestWrong : Int32) (v_bestWorn : Int32) (v_bestMany : Int32) (v_row : List Int32) (v_column : List Int32) (v_below : List Int32) (v_way1 : List Int32) (v_bestWay : List Int32) : Option (Bool × Int32 × Int32 × Int32 × List Int32) :=
    fX9_ends1_128 N x1 x2 x3 s0 v_rowsOf v_columnsOf v_wishedField v_isFound v_bestWrong v_bestWorn v_bestMany v_row v_column v_below v_way1 v_bestWay

set_option maxHeartbeats 4000000 in
set_option maxRecDepth 100000 in
theorem tX9_ends1_69 {p : Program} {l : Launch} {e : Env} {s : State} {m : MethodId} {args : Array Value} {below : List Frame} {meth : Method} {c : Code} {D : va_G} {cI cL cS cH : ClassId} {A : Nat → Prop} {d : Nat} {a : Nat → Nat} (hd : 4 ≤ d) (C0 : mm_Cx p s m args meth c RX9 cX9_ends1 7 none D (mm_T cI cL cS cH) A) (hA : ∀ q, s.heap.size ≤ q → A q) {v_keptMany : Int32} {v_done : Int32} {v_folded : Int32} {v_wronged : Int32} {v_tapeMany : Int32} {v_textMany : Int32} {v_base : Int32} {v_at : Int32} {v_ends : Int32} {v_fault : Int32} {v_opened : Int32} {v_bentMany : Int32} {v_bentWrong : Int32} {v_moreWorn : Int32} {v_planned : Int32} {v_allWrong : Int32} {v_allWorn : Int32} {v_z : Int32} {v_soughtBy : Int32} {v_sought : Int32} {v_soughtAt : Int32} {v_foundMany : Int32} {v_foundOrder : Int32} {v_isKept : Bool} {v_imageRows : Int32} {v_imageColumns : Int32} {v_imageFolded : Int32} {v_imageWronged : Int32} {v_bodies : Int32} {v_ran : Int32} {v_ownKind : Int32} {v_ownNumber : Int32} {v_limit : List Int32} {v_changeWas : List Int32} {v_changeIs : List Int32} {v_shapeRows : List Int32} {v_shapeColumns : List Int32} {v_face : List Int32} {v_worn : List Int32} {v_lastBend : List Int32} {v_tape : List Int32} {v_text : List Int32} {v_names : List Int32} {v_bends : List Int32} {v_high : List Int32} {v_to : List Int32} {v_pileSize : List Int32} {v_planLine : List Int32} {v_planWay : List Int32} {v_order1 : List Int32} {v_placeIn : List Int32} {v_bodyKind : List Int32} {v_trace : List Int32} {v_shelf : List Int32} {v_many : List Int32} {v_items : List Int64} {v_carried : List Int64} {w_isFound : Bool} {w_bestWrong : Int32} {w_bestWorn : Int32} {w_bestMany : Int32} {w_bestWay : List Int32} (N : Nat)  : ∀ (x1 : Int32) (x2 : Int32) (x3 : Int32) (s0 : Int32) (v_rowsOf : Int32) (v_columnsOf : Int32) (v_wishedField : Int32) (v_isFound : Bool) (v_bestWrong : Int32) (v_bestWorn : Int32) (v_bestMany : Int32) (v_row : List Int32) (v_column : List Int32) (v_below : List Int32) (v_way1 : List Int32) (v_bestWay : List Int32) (H : Heap) (locs : List Loc) (ls : Array Slot), fX9_ends1_69 N x1 x2 x3 s0 v_rowsOf v_columnsOf v_wishedField v_isFound v_bestWrong v_bestWorn v_bestMany v_row v_column v_below v_way1 v_bestWay = some (w_isFound, w_bestWrong, w_bestWorn, w_bestMany, w_bestWay) → va_P D mm_cl (wd_X9 cI cL cS cH a v_keptMany v_done v_rowsOf v_columnsOf v_folded v_wronged v_tapeMany v_textMany v_base v_at v_ends v_fault v_opened v_bentMany v_bentWrong v_moreWorn v_planned v_allWrong v_allWorn v_z v_wishedField v_isFound v_bestWrong v_bestWorn v_bestMany v_soughtBy v_sought v_soughtAt v_foundMany v_foundOrder v_isKept v_imageRows v_imageColumns v_imageFolded v_imageWronged v_bodies v_ran v_ownKind v_ownNumber v_limit v_changeWas v_changeIs v_shapeRows v_shapeColumns v_row v_column v_below v_face v_worn v_lastBend v_tape v_text v_names v_bends v_high v_to v_pileSize v_planLine v_planWay v_way1 v_bestWay v_order1 v_placeIn v_bodyKind v_trace v_shelf v_many v_items v_carried) H → va_D A (wd_X9 cI cL cS cH a v_keptMany v_done v_rowsOf v_columnsOf v_folded v_wronged v_tapeMany v_textMany v_base v_at v_ends v_fault v_opened v_bentMany v_bentWrong v_moreWorn v_planned v_allWrong v_allWorn v_z v_wishedField v_isFound v_bestWrong v_bestWorn v_bestMany v_soughtBy v_sought v_soughtAt v_foundMany v_foundOrder v_isKept v_imageRows v_imageColumns v_imageFolded v_imageWronged v_bodies v_ran v_ownKind v_ownNumber v_limit v_changeWas v_changeIs v_shapeRows v_shapeColumns v_row v_column v_below v_face v_worn v_lastBend v_tape v_text v_names v_bends v_high v_to v_pileSize v_planLine v_planWay v_way1 v_bestWay v_order1 v_placeIn v_bodyKind v_trace v_shelf v_many v_items v_carried) → va_S A s.heap H locs → lv_has ls 7 [(0, .ref (a 0)), (1, .int x1), (2, .int x2), (3, .int x3)] → W p l e (mm_rr d) s m args below meth c H locs 0 0 (mm_Z below D A (wd_X9 cI cL cS cH a v_keptMany v_done v_rowsOf v_columnsOf v_folded v_wronged v_tapeMany v_textMany v_base v_at v_ends v_fault v_opened v_bentMany v_bentWrong v_moreWorn v_planned v_allWrong v_allWorn v_z v_wishedField w_isFound w_bestWrong w_bestWorn w_bestMany v_soughtBy v_sought v_soughtAt v_foundMany v_foundOrder v_isKept v_imageRows v_imageColumns v_imageFolded v_imageWronged v_bodies v_ran v_ownKind v_ownNumber v_limit v_changeWas v_changeIs v_shapeRows v_shapeColumns v_row v_column v_below v_face v_worn v_lastBend v_tape v_text v_names v_bends v_high v_to v_pileSize v_planLine v_planWay v_way1 w_bestWay v_order1 v_placeIn v_bodyKind v_trace v_shelf v_many v_items v_carried) none args s) (F0 m 69 ls [.int s0]) := by
  obtain ⟨hx, hb, hml, hown, hts, hr, hlocks, hK, hSt⟩ := id C0
  intro x1 x2 x3 s0 v_rowsOf v_columnsOf v_wishedField v_isFound v_bestWrong v_bestWorn v_bestMany v_row v_column v_below v_way1 v_bestWay H locs ls hf hP hD hS hl
  unfold fX9_ends1_69 at hf
  refine lv_istore (lv' := [(5, .int s0), (0, .ref (a 0)), (1, .int x1), (2, .int x2), (3, .int x3)]) hx hb dX9_ends1_69 hl (by decide) rfl (fun ls hl => ?_)
  refine lv_goto (tgt := 128) hx hb dX9_ends1_71 (by decide) ?_
  exact tX9_ends1_128 hd C0 hA N  _ _ _ _ _ _ _ _ _ _ _ _ _ _ _ _ H locs ls hf hP hD hS (lv_sub hl [1, 2, 3, 4, 0] rfl)

def fX9_ends1_126 (N : Nat)  (x1 : Int32) (x2 : Int32) (x3 : Int32) (s0 : Int32) (v_rowsOf : Int32) (v_columnsOf : Int32) (v_wishedField : Int32) (v_isFound : Bool) (v_bestWrong : Int32) (v_bestWorn : Int32) (v_bestMany : Int32) (v_row : List Int32) (v_column : List Int32) (v_below : List Int32) (v_way1 : List Int32) (v_bestWay : List Int32) : Option (Bool × Int32 × Int32 × Int32 × List Int32) :=
    fX9_ends1_128 N x1 x2 x3 s0 v_rowsOf v_columnsOf v_wishedField v_isFound v_bestWrong v_bestWorn v_bestMany v_row v_column v_below v_way1 v_bestWay

set_option maxHeartbeats 4000000 in
set_option maxRecDepth 100000 in
theorem tX9_ends1_126 {p : Program} {l : Launch} {e : Env} {s : State} {m : MethodId} {args : Array Value} {below : List Frame} {meth : Method} {c : Code} {D : va_G} {cI cL cS cH : ClassId} {A : Nat → Prop} {d : Nat} {a : Nat → Nat} (hd : 4 ≤ d) (C0 : mm_Cx p s m args meth c RX9 cX9_ends1 7 none D (mm_T cI cL cS cH) A) (hA : ∀ q, s.heap.size ≤ q → A q) {v_keptMany : Int32} {v_done : Int32} {v_folded : Int32} {v_wronged : Int32} {v_tapeMany : Int32} {v_textMany : Int32} {v_base : Int32} {v_at : Int32} {v_ends : Int32} {v_fault : Int32} {v_opened : Int32} {v_bentMany : Int32} {v_bentWrong : Int32} {v_moreWorn : Int32} {v_planned : Int32} {v_allWrong : Int32} {v_allWorn : Int32} {v_z : Int32} {v_soughtBy : Int32} {v_sought : Int32} {v_soughtAt : Int32} {v_foundMany : Int32} {v_foundOrder : Int32} {v_isKept : Bool} {v_imageRows : Int32} {v_imageColumns : Int32} {v_imageFolded : Int32} {v_imageWronged : Int32} {v_bodies : Int32} {v_ran : Int32} {v_ownKind : Int32} {v_ownNumber : Int32} {v_limit : List Int32} {v_changeWas : List Int32} {v_changeIs : List Int32} {v_shapeRows : List Int32} {v_shapeColumns : List Int32} {v_face : List Int32} {v_worn : List Int32} {v_lastBend : List Int32} {v_tape : List Int32} {v_text : List Int32} {v_names : List Int32} {v_bends : List Int32} {v_high : List Int32} {v_to : List Int32} {v_pileSize : List Int32} {v_planLine : List Int32} {v_planWay : List Int32} {v_order1 : List Int32} {v_placeIn : List Int32} {v_bodyKind : List Int32} {v_trace : List Int32} {v_shelf : List Int32} {v_many : List Int32} {v_items : List Int64} {v_carried : List Int64} {w_isFound : Bool} {w_bestWrong : Int32} {w_bestWorn : Int32} {w_bestMany : Int32} {w_bestWay : List Int32} (N : Nat)  : ∀ (x1 : Int32) (x2 : Int32) (x3 : Int32) (s0 : Int32) (v_rowsOf : Int32) (v_columnsOf : Int32) (v_wishedField : Int32) (v_isFound : Bool) (v_bestWrong : Int32) (v_bestWorn : Int32) (v_bestMany : Int32) (v_row : List Int32) (v_column : List Int32) (v_below : List Int32) (v_way1 : List Int32) (v_bestWay : List Int32) (H : Heap) (locs : List Loc) (ls : Array Slot), fX9_ends1_126 N x1 x2 x3 s0 v_rowsOf v_columnsOf v_wishedField v_isFound v_bestWrong v_bestWorn v_bestMany v_row v_column v_below v_way1 v_bestWay = some (w_isFound, w_bestWrong, w_bestWorn, w_bestMany, w_bestWay) → va_P D mm_cl (wd_X9 cI cL cS cH a v_keptMany v_done v_rowsOf v_columnsOf v_folded v_wronged v_tapeMany v_textMany v_base v_at v_ends v_fault v_opened v_bentMany v_bentWrong v_moreWorn v_planned v_allWrong v_allWorn v_z v_wishedField v_isFound v_bestWrong v_bestWorn v_bestMany v_soughtBy v_sought v_soughtAt v_foundMany v_foundOrder v_isKept v_imageRows v_imageColumns v_imageFolded v_imageWronged v_bodies v_ran v_ownKind v_ownNumber v_limit v_changeWas v_changeIs v_shapeRows v_shapeColumns v_row v_column v_below v_face v_worn v_lastBend v_tape v_text v_names v_bends v_high v_to v_pileSize v_planLine v_planWay v_way1 v_bestWay v_order1 v_placeIn v_bodyKind v_trace v_shelf v_many v_items v_carried) H → va_D A (wd_X9 cI cL cS cH a v_keptMany v_done v_rowsOf v_columnsOf v_folded v_wronged v_tapeMany v_textMany v_base v_at v_ends v_fault v_opened v_bentMany v_bentWrong v_moreWorn v_planned v_allWrong v_allWorn v_z v_wishedField v_isFound v_bestWrong v_bestWorn v_bestMany v_soughtBy v_sought v_soughtAt v_foundMany v_foundOrder v_isKept v_imageRows v_imageColumns v_imageFolded v_imageWronged v_bodies v_ran v_ownKind v_ownNumber v_limit v_changeWas v_changeIs v_shapeRows v_shapeColumns v_row v_column v_below v_face v_worn v_lastBend v_tape v_text v_names v_bends v_high v_to v_pileSize v_planLine v_planWay v_way1 v_bestWay v_order1 v_placeIn v_bodyKind v_trace v_shelf v_many v_items v_carried) → va_S A s.heap H locs → lv_has ls 7 [(0, .ref (a 0)), (1, .int x1), (2, .int x2), (3, .int x3)] → W p l e (mm_rr d) s m args below meth c H locs 0 0 (mm_Z below D A (wd_X9 cI cL cS cH a v_keptMany v_done v_rowsOf v_columnsOf v_folded v_wronged v_tapeMany v_textMany v_base v_at v_ends v_fault v_opened v_bentMany v_bentWrong v_moreWorn v_planned v_allWrong v_allWorn v_z v_wishedField w_isFound w_bestWrong w_bestWorn w_bestMany v_soughtBy v_sought v_soughtAt v_foundMany v_foundOrder v_isKept v_imageRows v_imageColumns v_imageFolded v_imageWronged v_bodies v_ran v_ownKind v_ownNumber v_limit v_changeWas v_changeIs v_shapeRows v_shapeColumns v_row v_column v_below v_face v_worn v_lastBend v_tape v_text v_names v_bends v_high v_to v_pileSize v_planLine v_planWay v_way1 w_bestWay v_order1 v_placeIn v_bodyKind v_trace v_shelf v_many v_items v_carried) none args s) (F0 m 126 ls [.int s0]) := by
  obtain ⟨hx, hb, hml, hown, hts, hr, hlocks, hK, hSt⟩ := id C0
  intro x1 x2 x3 s0 v_rowsOf v_columnsOf v_wishedField v_isFound v_bestWrong v_bestWorn v_bestMany v_row v_column v_below v_way1 v_bestWay H locs ls hf hP hD hS hl
  unfold fX9_ends1_126 at hf
  refine lv_istore (lv' := [(5, .int s0), (0, .ref (a 0)), (1, .int x1), (2, .int x2), (3, .int x3)]) hx hb dX9_ends1_126 hl (by decide) rfl (fun ls hl => ?_)
  exact tX9_ends1_128 hd C0 hA N  _ _ _ _ _ _ _ _ _ _ _ _ _ _ _ _ H locs ls hf hP hD hS (lv_sub hl [1, 2, 3, 4, 0] rfl)

def fX9_ends1_121 (N : Nat)  (x1 : Int32) (x2 : Int32) (x3 : Int32) (v_rowsOf : Int32) (v_columnsOf : Int32) (v_wishedField : Int32) (v_isFound : Bool) (v_bestWrong : Int32) (v_bestWorn : Int32) (v_bestMany : Int32) (v_row : List Int32) (v_column : List Int32) (v_below : List Int32) (v_way1 : List Int32) (v_bestWay : List Int32) : Option (Bool × Int32 × Int32 × Int32 × List Int32) :=
    fX9_ends1_126 N x1 x2 x3 (1 : Int32) v_rowsOf v_columnsOf v_wishedField v_isFound v_bestWrong v_bestWorn v_bestMany v_row v_column v_below v_way1 v_bestWay

set_option maxHeartbeats 4000000 in
set_option maxRecDepth 100000 in
theorem tX9_ends1_121 {p : Program} {l : Launch} {e : Env} {s : State} {m : MethodId} {args : Array Value} {below : List Frame} {meth : Method} {c : Code} {D : va_G} {cI cL cS cH : ClassId} {A : Nat → Prop} {d : Nat} {a : Nat → Nat} (hd : 4 ≤ d) (C0 : mm_Cx p s m args meth c RX9 cX9_ends1 7 none D (mm_T cI cL cS cH) A) (hA : ∀ q, s.heap.size ≤ q → A q) {v_keptMany : Int32} {v_done : Int32} {v_folded : Int32} {v_wronged : Int32} {v_tapeMany : Int32} {v_textMany : Int32} {v_base : Int32} {v_at : Int32} {v_ends : Int32} {v_fault : Int32} {v_opened : Int32} {v_bentMany : Int32} {v_bentWrong : Int32} {v_moreWorn : Int32} {v_planned : Int32} {v_allWrong : Int32} {v_allWorn : Int32} {v_z : Int32} {v_soughtBy : Int32} {v_sought : Int32} {v_soughtAt : Int32} {v_foundMany : Int32} {v_foundOrder : Int32} {v_isKept : Bool} {v_imageRows : Int32} {v_imageColumns : Int32} {v_imageFolded : Int32} {v_imageWronged : Int32} {v_bodies : Int32} {v_ran : Int32} {v_ownKind : Int32} {v_ownNumber : Int32} {v_limit : List Int32} {v_changeWas : List Int32} {v_changeIs : List Int32} {v_shapeRows : List Int32} {v_shapeColumns : List Int32} {v_face : List Int32} {v_worn : List Int32} {v_lastBend : List Int32} {v_tape : List Int32} {v_text : List Int32} {v_names : List Int32} {v_bends : List Int32} {v_high : List Int32} {v_to : List Int32} {v_pileSize : List Int32} {v_planLine : List Int32} {v_planWay : List Int32} {v_order1 : List Int32} {v_placeIn : List Int32} {v_bodyKind : List Int32} {v_trace : List Int32} {v_shelf : List Int32} {v_many : List Int32} {v_items : List Int64} {v_carried : List Int64} {w_isFound : Bool} {w_bestWrong : Int32} {w_bestWorn : Int32} {w_bestMany : Int32} {w_bestWay : List Int32} (N : Nat)  : ∀ (x1 : Int32) (x2 : Int32) (x3 : Int32) (v_rowsOf : Int32) (v_columnsOf : Int32) (v_wishedField : Int32) (v_isFound : Bool) (v_bestWrong : Int32) (v_bestWorn : Int32) (v_bestMany : Int32) (v_row : List Int32) (v_column : List Int32) (v_below : List Int32) (v_way1 : List Int32) (v_bestWay : List Int32) (H : Heap) (locs : List Loc) (ls : Array Slot), fX9_ends1_121 N x1 x2 x3 v_rowsOf v_columnsOf v_wishedField v_isFound v_bestWrong v_bestWorn v_bestMany v_row v_column v_below v_way1 v_bestWay = some (w_isFound, w_bestWrong, w_bestWorn, w_bestMany, w_bestWay) → va_P D mm_cl (wd_X9 cI cL cS cH a v_keptMany v_done v_rowsOf v_columnsOf v_folded v_wronged v_tapeMany v_textMany v_base v_at v_ends v_fault v_opened v_bentMany v_bentWrong v_moreWorn v_planned v_allWrong v_allWorn v_z v_wishedField v_isFound v_bestWrong v_bestWorn v_bestMany v_soughtBy v_sought v_soughtAt v_foundMany v_foundOrder v_isKept v_imageRows v_imageColumns v_imageFolded v_imageWronged v_bodies v_ran v_ownKind v_ownNumber v_limit v_changeWas v_changeIs v_shapeRows v_shapeColumns v_row v_column v_below v_face v_worn v_lastBend v_tape v_text v_names v_bends v_high v_to v_pileSize v_planLine v_planWay v_way1 v_bestWay v_order1 v_placeIn v_bodyKind v_trace v_shelf v_many v_items v_carried) H → va_D A (wd_X9 cI cL cS cH a v_keptMany v_done v_rowsOf v_columnsOf v_folded v_wronged v_tapeMany v_textMany v_base v_at v_ends v_fault v_opened v_bentMany v_bentWrong v_moreWorn v_planned v_allWrong v_allWorn v_z v_wishedField v_isFound v_bestWrong v_bestWorn v_bestMany v_soughtBy v_sought v_soughtAt v_foundMany v_foundOrder v_isKept v_imageRows v_imageColumns v_imageFolded v_imageWronged v_bodies v_ran v_ownKind v_ownNumber v_limit v_changeWas v_changeIs v_shapeRows v_shapeColumns v_row v_column v_below v_face v_worn v_lastBend v_tape v_text v_names v_bends v_high v_to v_pileSize v_planLine v_planWay v_way1 v_bestWay v_order1 v_placeIn v_bodyKind v_trace v_shelf v_many v_items v_carried) → va_S A s.heap H locs → lv_has ls 7 [(0, .ref (a 0)), (1, .int x1), (2, .int x2), (3, .int x3)] → W p l e (mm_rr d) s m args below meth c H locs 0 0 (mm_Z below D A (wd_X9 cI cL cS cH a v_keptMany v_done v_rowsOf v_columnsOf v_folded v_wronged v_tapeMany v_textMany v_base v_at v_ends v_fault v_opened v_bentMany v_bentWrong v_moreWorn v_planned v_allWrong v_allWorn v_z v_wishedField w_isFound w_bestWrong w_bestWorn w_bestMany v_soughtBy v_sought v_soughtAt v_foundMany v_foundOrder v_isKept v_imageRows v_imageColumns v_imageFolded v_imageWronged v_bodies v_ran v_ownKind v_ownNumber v_limit v_changeWas v_changeIs v_shapeRows v_shapeColumns v_row v_column v_below v_face v_worn v_lastBend v_tape v_text v_names v_bends v_high v_to v_pileSize v_planLine v_planWay v_way1 w_bestWay v_order1 v_placeIn v_bodyKind v_trace v_shelf v_many v_items v_carried) none args s) (F0 m 121 ls []) := by
  obtain ⟨hx, hb, hml, hown, hts, hr, hlocks, hK, hSt⟩ := id C0
  intro x1 x2 x3 v_rowsOf v_columnsOf v_wishedField v_isFound v_bestWrong v_bestWorn v_bestMany v_row v_column v_below v_way1 v_bestWay H locs ls hf hP hD hS hl
  unfold fX9_ends1_121 at hf
  refine lv_iconst (v := 1) hx hb dX9_ends1_121 (by decide) ?_
  refine lv_goto (tgt := 126) hx hb dX9_ends1_122 (by decide) ?_
  exact tX9_ends1_126 hd C0 hA N  _ _ _ _ _ _ _ _ _ _ _ _ _ _ _ _ H locs ls hf hP hD hS (lv_sub hl [0, 1, 2, 3] rfl)

def fX9_ends1_125 (N : Nat)  (x1 : Int32) (x2 : Int32) (x3 : Int32) (v_rowsOf : Int32) (v_columnsOf : Int32) (v_wishedField : Int32) (v_isFound : Bool) (v_bestWrong : Int32) (v_bestWorn : Int32) (v_bestMany : Int32) (v_row : List Int32) (v_column : List Int32) (v_below : List Int32) (v_way1 : List Int32) (v_bestWay : List Int32) : Option (Bool × Int32 × Int32 × Int32 × List Int32) :=
    fX9_ends1_126 N x1 x2 x3 (0 : Int32) v_rowsOf v_columnsOf v_wishedField v_isFound v_bestWrong v_bestWorn v_bestMany v_row v_column v_below v_way1 v_bestWay

set_option maxHeartbeats 4000000 in
set_option maxRecDepth 100000 in
theorem tX9_ends1_125 {p : Program} {l : Launch} {e : Env} {s : State} {m : MethodId} {args : Array Value} {below : List Frame} {meth : Method} {c : Code} {D : va_G} {cI cL cS cH : ClassId} {A : Nat → Prop} {d : Nat} {a : Nat → Nat} (hd : 4 ≤ d) (C0 : mm_Cx p s m args meth c RX9 cX9_ends1 7 none D (mm_T cI cL cS cH) A) (hA : ∀ q, s.heap.size ≤ q → A q) {v_keptMany : Int32} {v_done : Int32} {v_folded : Int32} {v_wronged : Int32} {v_tapeMany : Int32} {v_textMany : Int32} {v_base : Int32} {v_at : Int32} {v_ends : Int32} {v_fault : Int32} {v_opened : Int32} {v_bentMany : Int32} {v_bentWrong : Int32} {v_moreWorn : Int32} {v_planned : Int32} {v_allWrong : Int32} {v_allWorn : Int32} {v_z : Int32} {v_soughtBy : Int32} {v_sought : Int32} {v_soughtAt : Int32} {v_foundMany : Int32} {v_foundOrder : Int32} {v_isKept : Bool} {v_imageRows : Int32} {v_imageColumns : Int32} {v_imageFolded : Int32} {v_imageWronged : Int32} {v_bodies : Int32} {v_ran : Int32} {v_ownKind : Int32} {v_ownNumber : Int32} {v_limit : List Int32} {v_changeWas : List Int32} {v_changeIs : List Int32} {v_shapeRows : List Int32} {v_shapeColumns : List Int32} {v_face : List Int32} {v_worn : List Int32} {v_lastBend : List Int32} {v_tape : List Int32} {v_text : List Int32} {v_names : List Int32} {v_bends : List Int32} {v_high : List Int32} {v_to : List Int32} {v_pileSize : List Int32} {v_planLine : List Int32} {v_planWay : List Int32} {v_order1 : List Int32} {v_placeIn : List Int32} {v_bodyKind : List Int32} {v_trace : List Int32} {v_shelf : List Int32} {v_many : List Int32} {v_items : List Int64} {v_carried : List Int64} {w_isFound : Bool} {w_bestWrong : Int32} {w_bestWorn : Int32} {w_bestMany : Int32} {w_bestWay : List Int32} (N : Nat)  : ∀ (x1 : Int32) (x2 : Int32) (x3 : Int32) (v_rowsOf : Int32) (v_columnsOf : Int32) (v_wishedField : Int32) (v_isFound : Bool) (v_bestWrong : Int32) (v_bestWorn : Int32) (v_bestMany : Int32) (v_row : List Int32) (v_column : List Int32) (v_below : List Int32) (v_way1 : List Int32) (v_bestWay : List Int32) (H : Heap) (locs : List Loc) (ls : Array Slot), fX9_ends1_125 N x1 x2 x3 v_rowsOf v_columnsOf v_wishedField v_isFound v_bestWrong v_bestWorn v_bestMany v_row v_column v_below v_way1 v_bestWay = some (w_isFound, w_bestWrong, w_bestWorn, w_bestMany, w_bestWay) → va_P D mm_cl (wd_X9 cI cL cS cH a v_keptMany v_done v_rowsOf v_columnsOf v_folded v_wronged v_tapeMany v_textMany v_base v_at v_ends v_fault v_opened v_bentMany v_bentWrong v_moreWorn v_planned v_allWrong v_allWorn v_z v_wishedField v_isFound v_bestWrong v_bestWorn v_bestMany v_soughtBy v_sought v_soughtAt v_foundMany v_foundOrder v_isKept v_imageRows v_imageColumns v_imageFolded v_imageWronged v_bodies v_ran v_ownKind v_ownNumber v_limit v_changeWas v_changeIs v_shapeRows v_shapeColumns v_row v_column v_below v_face v_worn v_lastBend v_tape v_text v_names v_bends v_high v_to v_pileSize v_planLine v_planWay v_way1 v_bestWay v_order1 v_placeIn v_bodyKind v_trace v_shelf v_many v_items v_carried) H → va_D A (wd_X9 cI cL cS cH a v_keptMany v_done v_rowsOf v_columnsOf v_folded v_wronged v_tapeMany v_textMany v_base v_at v_ends v_fault v_opened v_bentMany v_bentWrong v_moreWorn v_planned v_allWrong v_allWorn v_z v_wishedField v_isFound v_bestWrong v_bestWorn v_bestMany v_soughtBy v_sought v_soughtAt v_foundMany v_foundOrder v_isKept v_imageRows v_imageColumns v_imageFolded v_imageWronged v_bodies v_ran v_ownKind v_ownNumber v_limit v_changeWas v_changeIs v_shapeRows v_shapeColumns v_row v_column v_below v_face v_worn v_lastBend v_tape v_text v_names v_bends v_high v_to v_pileSize v_planLine v_planWay v_way1 v_bestWay v_order1 v_placeIn v_bodyKind v_trace v_shelf v_many v_items v_carried) → va_S A s.heap H locs → lv_has ls 7 [(0, .ref (a 0)), (1, .int x1), (2, .int x2), (3, .int x3)] → W p l e (mm_rr d) s m args below meth c H locs 0 0 (mm_Z below D A (wd_X9 cI cL cS cH a v_keptMany v_done v_rowsOf v_columnsOf v_folded v_wronged v_tapeMany v_textMany v_base v_at v_ends v_fault v_opened v_bentMany v_bentWrong v_moreWorn v_planned v_allWrong v_allWorn v_z v_wishedField w_isFound w_bestWrong w_bestWorn w_bestMany v_soughtBy v_sought v_soughtAt v_foundMany v_foundOrder v_isKept v_imageRows v_imageColumns v_imageFolded v_imageWronged v_bodies v_ran v_ownKind v_ownNumber v_limit v_changeWas v_changeIs v_shapeRows v_shapeColumns v_row v_column v_below v_face v_worn v_lastBend v_tape v_text v_names v_bends v_high v_to v_pileSize v_planLine v_planWay v_way1 w_bestWay v_order1 v_placeIn v_bodyKind v_trace v_shelf v_many v_items v_carried) none args s) (F0 m 125 ls []) := by
  obtain ⟨hx, hb, hml, hown, hts, hr, hlocks, hK, hSt⟩ := id C0
  intro x1 x2 x3 v_rowsOf v_columnsOf v_wishedField v_isFound v_bestWrong v_bestWorn v_bestMany v_row v_column v_below v_way1 v_bestWay H locs ls hf hP hD hS hl
  unfold fX9_ends1_125 at hf
  refine lv_iconst (v := 0) hx hb dX9_ends1_125 (by decide) ?_
  exact tX9_ends1_126 hd C0 hA N  _ _ _ _ _ _ _ _ _ _ _ _ _ _ _ _ H locs ls hf hP hD hS (lv_sub hl [0, 1, 2, 3] rfl)

def fX9_ends1_74 (N : Nat)  (x1 : Int32) (x2 : Int32) (x3 : Int32) (x5 : Int32) (v_rowsOf : Int32) (v_columnsOf : Int32) (v_wishedField : Int32) (v_isFound : Bool) (v_bestWrong : Int32) (v_bestWorn : Int32) (v_bestMany : Int32) (v_row : List Int32) (v_column : List Int32) (v_below : List Int32) (v_way1 : List Int32) (v_bestWay : List Int32) : Option (Bool × Int32 × Int32 × Int32 × List Int32) :=
    if v_isFound = false then
    (fX9_ends1_128 N x1 x2 x3 x5 v_rowsOf v_columnsOf v_wishedField v_isFound v_bestWrong v_bestWorn v_bestMany v_row v_column v_below v_way1 v_bestWay)
    else (if x2 < v_bestWrong then
    (fX9_ends1_121 N x1 x2 x3 v_rowsOf v_columnsOf v_wishedField v_isFound v_bestWrong v_bestWorn v_bestMany v_row v_column v_below v_way1 v_bestWay)
    else (if x2 = v_bestWrong then
    (if x3 < v_bestWorn then
    (fX9_ends1_121 N x1 x2 x3 v_rowsOf v_columnsOf v_wishedField v_isFound v_bestWrong v_bestWorn v_bestMany v_row v_column v_below v_way1 v_bestWay)
    else (if x3 = v_bestWorn then
    (if v_bestMany ≤ x1 then
    (fX9_ends1_125 N x1 x2 x3 v_rowsOf v_columnsOf v_wishedField v_isFound v_bestWrong v_bestWorn v_bestMany v_row v_column v_below v_way1 v_bestWay)
    else (fX9_ends1_121 N x1 x2 x3 v_rowsOf v_columnsOf v_wishedField v_isFound v_bestWrong v_bestWorn v_bestMany v_row v_column v_below v_way1 v_bestWay))
    else (fX9_ends1_125 N x1 x2 x3 v_rowsOf v_columnsOf v_wishedField v_isFound v_bestWrong v_bestWorn v_bestMany v_row v_column v_below v_way1 v_bestWay)))
    else (fX9_ends1_125 N x1 x2 x3 v_rowsOf v_columnsOf v_wishedField v_isFound v_bestWrong v_bestWorn v_bestMany v_row v_column v_below v_way1 v_bestWay)))

set_option maxHeartbeats 4000000 in
set_option maxRecDepth 100000 in
theorem tX9_ends1_74 {p : Program} {l : Launch} {e : Env} {s : State} {m : MethodId} {args : Array Value} {below : List Frame} {meth : Method} {c : Code} {D : va_G} {cI cL cS cH : ClassId} {A : Nat → Prop} {d : Nat} {a : Nat → Nat} (hd : 4 ≤ d) (C0 : mm_Cx p s m args meth c RX9 cX9_ends1 7 none D (mm_T cI cL cS cH) A) (hA : ∀ q, s.heap.size ≤ q → A q) {v_keptMany : Int32} {v_done : Int32} {v_folded : Int32} {v_wronged : Int32} {v_tapeMany : Int32} {v_textMany : Int32} {v_base : Int32} {v_at : Int32} {v_ends : Int32} {v_fault : Int32} {v_opened : Int32} {v_bentMany : Int32} {v_bentWrong : Int32} {v_moreWorn : Int32} {v_planned : Int32} {v_allWrong : Int32} {v_allWorn : Int32} {v_z : Int32} {v_soughtBy : Int32} {v_sought : Int32} {v_soughtAt : Int32} {v_foundMany : Int32} {v_foundOrder : Int32} {v_isKept : Bool} {v_imageRows : Int32} {v_imageColumns : Int32} {v_imageFolded : Int32} {v_imageWronged : Int32} {v_bodies : Int32} {v_ran : Int32} {v_ownKind : Int32} {v_ownNumber : Int32} {v_limit : List Int32} {v_changeWas : List Int32} {v_changeIs : List Int32} {v_shapeRows : List Int32} {v_shapeColumns : List Int32} {v_face : List Int32} {v_worn : List Int32} {v_lastBend : List Int32} {v_tape : List Int32} {v_text : List Int32} {v_names : List Int32} {v_bends : List Int32} {v_high : List Int32} {v_to : List Int32} {v_pileSize : List Int32} {v_planLine : List Int32} {v_planWay : List Int32} {v_order1 : List Int32} {v_placeIn : List Int32} {v_bodyKind : List Int32} {v_trace : List Int32} {v_shelf : List Int32} {v_many : List Int32} {v_items : List Int64} {v_carried : List Int64} {w_isFound : Bool} {w_bestWrong : Int32} {w_bestWorn : Int32} {w_bestMany : Int32} {w_bestWay : List Int32} (N : Nat)  : ∀ (x1 : Int32) (x2 : Int32) (x3 : Int32) (x5 : Int32) (v_rowsOf : Int32) (v_columnsOf : Int32) (v_wishedField : Int32) (v_isFound : Bool) (v_bestWrong : Int32) (v_bestWorn : Int32) (v_bestMany : Int32) (v_row : List Int32) (v_column : List Int32) (v_below : List Int32) (v_way1 : List Int32) (v_bestWay : List Int32) (H : Heap) (locs : List Loc) (ls : Array Slot), fX9_ends1_74 N x1 x2 x3 x5 v_rowsOf v_columnsOf v_wishedField v_isFound v_bestWrong v_bestWorn v_bestMany v_row v_column v_below v_way1 v_bestWay = some (w_isFound, w_bestWrong, w_bestWorn, w_bestMany, w_bestWay) → va_P D mm_cl (wd_X9 cI cL cS cH a v_keptMany v_done v_rowsOf v_columnsOf v_folded v_wronged v_tapeMany v_textMany v_base v_at v_ends v_fault v_opened v_bentMany v_bentWrong v_moreWorn v_planned v_allWrong v_allWorn v_z v_wishedField v_isFound v_bestWrong v_bestWorn v_bestMany v_soughtBy v_sought v_soughtAt v_foundMany v_foundOrder v_isKept v_imageRows v_imageColumns v_imageFolded v_imageWronged v_bodies v_ran v_ownKind v_ownNumber v_limit v_changeWas v_changeIs v_shapeRows v_shapeColumns v_row v_column v_below v_face v_worn v_lastBend v_tape v_text v_names v_bends v_high v_to v_pileSize v_planLine v_planWay v_way1 v_bestWay v_order1 v_placeIn v_bodyKind v_trace v_shelf v_many v_items v_carried) H → va_D A (wd_X9 cI cL cS cH a v_keptMany v_done v_rowsOf v_columnsOf v_folded v_wronged v_tapeMany v_textMany v_base v_at v_ends v_fault v_opened v_bentMany v_bentWrong v_moreWorn v_planned v_allWrong v_allWorn v_z v_wishedField v_isFound v_bestWrong v_bestWorn v_bestMany v_soughtBy v_sought v_soughtAt v_foundMany v_foundOrder v_isKept v_imageRows v_imageColumns v_imageFolded v_imageWronged v_bodies v_ran v_ownKind v_ownNumber v_limit v_changeWas v_changeIs v_shapeRows v_shapeColumns v_row v_column v_below v_face v_worn v_lastBend v_tape v_text v_names v_bends v_high v_to v_pileSize v_planLine v_planWay v_way1 v_bestWay v_order1 v_placeIn v_bodyKind v_trace v_shelf v_many v_items v_carried) → va_S A s.heap H locs → lv_has ls 7 [(0, .ref (a 0)), (1, .int x1), (2, .int x2), (3, .int x3), (5, .int x5)] → W p l e (mm_rr d) s m args below meth c H locs 0 0 (mm_Z below D A (wd_X9 cI cL cS cH a v_keptMany v_done v_rowsOf v_columnsOf v_folded v_wronged v_tapeMany v_textMany v_base v_at v_ends v_fault v_opened v_bentMany v_bentWrong v_moreWorn v_planned v_allWrong v_allWorn v_z v_wishedField w_isFound w_bestWrong w_bestWorn w_bestMany v_soughtBy v_sought v_soughtAt v_foundMany v_foundOrder v_isKept v_imageRows v_imageColumns v_imageFolded v_imageWronged v_bodies v_ran v_ownKind v_ownNumber v_limit v_changeWas v_changeIs v_shapeRows v_shapeColumns v_row v_column v_below v_face v_worn v_lastBend v_tape v_text v_names v_bends v_high v_to v_pileSize v_planLine v_planWay v_way1 w_bestWay v_order1 v_placeIn v_bodyKind v_trace v_shelf v_many v_items v_carried) none args s) (F0 m 74 ls []) := by
  obtain ⟨hx, hb, hml, hown, hts, hr, hlocks, hK, hSt⟩ := id C0
  intro x1 x2 x3 x5 v_rowsOf v_columnsOf v_wishedField v_isFound v_bestWrong v_bestWorn v_bestMany v_row v_column v_below v_way1 v_bestWay H locs ls hf hP hD hS hl
  unfold fX9_ends1_74 at hf
  refine lv_aload_n hx hb dX9_ends1_74 rfl (lv_at hl 0 rfl) ?_
  refine mm_get C0 hP iw_X9 0 rfl rfl 43 (by decide) fl_X9_307 rfl dX9_ends1_75 ?_
  refine lv_if_eq (tgt := 128) hx hb dX9_ends1_78 (by decide) (fun c_17 => ?_) (fun c_17 => ?_)
  · have hf := mm_ip hf (mm_b0 c_17)
    exact tX9_ends1_128 hd C0 hA N  _ _ _ _ _ _ _ _ _ _ _ _ _ _ _ _ H locs ls hf hP hD hS (lv_sub hl [0, 1, 2, 3, 4] rfl)
  · have hf := mm_in hf (mm_b1 c_17)
    refine lv_iload_n hx hb dX9_ends1_81 rfl (lv_at hl 2 rfl) ?_
    refine lv_aload_n hx hb dX9_ends1_82 rfl (lv_at hl 0 rfl) ?_
    refine mm_get C0 hP iw_X9 0 rfl rfl 44 (by decide) fl_X9_314 rfl dX9_ends1_83 ?_
    refine lv_icmp_lt (tgt := 121) hx hb dX9_ends1_86 (by decide) (fun c_18 => ?_) (fun c_18 => ?_)
    · have hf := mm_ip hf c_18
      exact tX9_ends1_121 hd C0 hA N  _ _ _ _ _ _ _ _ _ _ _ _ _ _ _ H locs ls hf hP hD hS (lv_sub hl [0, 1, 2, 3] rfl)
    · have hf := mm_in hf c_18
      refine lv_iload_n hx hb dX9_ends1_89 rfl (lv_at hl 2 rfl) ?_
      refine lv_aload_n hx hb dX9_ends1_90 rfl (lv_at hl 0 rfl) ?_
      refine mm_get C0 hP iw_X9 0 rfl rfl 44 (by decide) fl_X9_314 rfl dX9_ends1_91 ?_
      refine lv_icmp_ne (tgt := 125) hx hb dX9_ends1_94 (by decide) (fun c_19 => ?_) (fun c_19 => ?_)
      · have hf := mm_in hf c_19
        exact tX9_ends1_125 hd C0 hA N  _ _ _ _ _ _ _ _ _ _ _ _ _ _ _ H locs ls hf hP hD hS (lv_sub hl [0, 1, 2, 3] rfl)
      · have hf := mm_ip hf c_19
        refine lv_iload_n hx hb dX9_ends1_97 rfl (lv_at hl 3 rfl) ?_
        refine lv_aload_n hx hb dX9_ends1_98 rfl (lv_at hl 0 rfl) ?_
        refine mm_get C0 hP iw_X9 0 rfl rfl 45 (by decide) fl_X9_317 rfl dX9_ends1_99 ?_
        refine lv_icmp_lt (tgt := 121) hx hb dX9_ends1_102 (by decide) (fun c_20 => ?_) (fun c_20 => ?_)
        · have hf := mm_ip hf c_20
          exact tX9_ends1_121 hd C0 hA N  _ _ _ _ _ _ _ _ _ _ _ _ _ _ _ H locs ls hf hP hD hS (lv_sub hl [0, 1, 2, 3] rfl)
        · have hf := mm_in hf c_20
          refine lv_iload_n hx hb dX9_ends1_105 rfl (lv_at hl 3 rfl) ?_
          refine lv_aload_n hx hb dX9_ends1_106 rfl (lv_at hl 0 rfl) ?_
          refine mm_get C0 hP iw_X9 0 rfl rfl 45 (by decide) fl_X9_317 rfl dX9_ends1_107 ?_
          refine lv_icmp_ne (tgt := 125) hx hb dX9_ends1_110 (by decide) (fun c_21 => ?_) (fun c_21 => ?_)
          · have hf := mm_in hf c_21
            exact tX9_ends1_125 hd C0 hA N  _ _ _ _ _ _ _ _ _ _ _ _ _ _ _ H locs ls hf hP hD hS (lv_sub hl [0, 1, 2, 3] rfl)
          · have hf := mm_ip hf c_21
            refine lv_iload_n hx hb dX9_ends1_113 rfl (lv_at hl 1 rfl) ?_
            refine lv_aload_n hx hb dX9_ends1_114 rfl (lv_at hl 0 rfl) ?_
            refine mm_get C0 hP iw_X9 0 rfl rfl 46 (by decide) fl_X9_311 rfl dX9_ends1_115 ?_
            refine lv_icmp_ge (tgt := 125) hx hb dX9_ends1_118 (by decide) (fun c_22 => ?_) (fun c_22 => ?_)
            · have hf := mm_ip hf c_22
              exact tX9_ends1_125 hd C0 hA N  _ _ _ _ _ _ _ _ _ _ _ _ _ _ _ H locs ls hf hP hD hS (lv_sub hl [0, 1, 2, 3] rfl)
            · have hf := mm_in hf c_22
              exact tX9_ends1_121 hd C0 hA N  _ _ _ _ _ _ _ _ _ _ _ _ _ _ _ H locs ls hf hP hD hS (lv_sub hl [0, 1, 2, 3] rfl)

def fX9_ends1_40 (N : Nat)  (x1 : Int32) (x2 : Int32) (x3 : Int32) (s0 : Int32) (v_rowsOf : Int32) (v_columnsOf : Int32) (v_wishedField : Int32) (v_isFound : Bool) (v_bestWrong : Int32) (v_bestWorn : Int32) (v_bestMany : Int32) (v_row : List Int32) (v_column : List Int32) (v_below : List Int32) (v_way1 : List Int32) (v_bestWay : List Int32) : Option (Bool × Int32 × Int32 × Int32 × List Int32) :=
    if v_isFound = false then
    (fX9_ends1_74 N x1 x2 x3 s0 v_rowsOf v_columnsOf v_wishedField v_isFound v_bestWrong v_bestWorn v_bestMany v_row v_column v_below v_way1 v_bestWay)
    else (if v_wishedField < 0 then
    (fX9_ends1_74 N x1 x2 x3 s0 v_rowsOf v_columnsOf v_wishedField v_isFound v_bestWrong v_bestWorn v_bestMany v_row v_column v_below v_way1 v_bestWay)
    else (if v_bestMany ≤ x1 then
    (fX9_ends1_69 N x1 x2 x3 (0 : Int32) v_rowsOf v_columnsOf v_wishedField v_isFound v_bestWrong v_bestWorn v_bestMany v_row v_column v_below v_way1 v_bestWay)
    else (fX9_ends1_69 N x1 x2 x3 (1 : Int32) v_rowsOf v_columnsOf v_wishedField v_isFound v_bestWrong v_bestWorn v_bestMany v_row v_column v_below v_way1 v_bestWay)))

set_option maxHeartbeats 4000000 in
set_option maxRecDepth 100000 in
theorem tX9_ends1_40 {p : Program} {l : Launch} {e : Env} {s : State} {m : MethodId} {args : Array Value} {below : List Frame} {meth : Method} {c : Code} {D : va_G} {cI cL cS cH : ClassId} {A : Nat → Prop} {d : Nat} {a : Nat → Nat} (hd : 4 ≤ d) (C0 : mm_Cx p s m args meth c RX9 cX9_ends1 7 none D (mm_T cI cL cS cH) A) (hA : ∀ q, s.heap.size ≤ q → A q) {v_keptMany : Int32} {v_done : Int32} {v_folded : Int32} {v_wronged : Int32} {v_tapeMany : Int32} {v_textMany : Int32} {v_base : Int32} {v_at : Int32} {v_ends : Int32} {v_fault : Int32} {v_opened : Int32} {v_bentMany : Int32} {v_bentWrong : Int32} {v_moreWorn : Int32} {v_planned : Int32} {v_allWrong : Int32} {v_allWorn : Int32} {v_z : Int32} {v_soughtBy : Int32} {v_sought : Int32} {v_soughtAt : Int32} {v_foundMany : Int32} {v_foundOrder : Int32} {v_isKept : Bool} {v_imageRows : Int32} {v_imageColumns : Int32} {v_imageFolded : Int32} {v_imageWronged : Int32} {v_bodies : Int32} {v_ran : Int32} {v_ownKind : Int32} {v_ownNumber : Int32} {v_limit : List Int32} {v_changeWas : List Int32} {v_changeIs : List Int32} {v_shapeRows : List Int32} {v_shapeColumns : List Int32} {v_face : List Int32} {v_worn : List Int32} {v_lastBend : List Int32} {v_tape : List Int32} {v_text : List Int32} {v_names : List Int32} {v_bends : List Int32} {v_high : List Int32} {v_to : List Int32} {v_pileSize : List Int32} {v_planLine : List Int32} {v_planWay : List Int32} {v_order1 : List Int32} {v_placeIn : List Int32} {v_bodyKind : List Int32} {v_trace : List Int32} {v_shelf : List Int32} {v_many : List Int32} {v_items : List Int64} {v_carried : List Int64} {w_isFound : Bool} {w_bestWrong : Int32} {w_bestWorn : Int32} {w_bestMany : Int32} {w_bestWay : List Int32} (N : Nat)  : ∀ (x1 : Int32) (x2 : Int32) (x3 : Int32) (s0 : Int32) (v_rowsOf : Int32) (v_columnsOf : Int32) (v_wishedField : Int32) (v_isFound : Bool) (v_bestWrong : Int32) (v_bestWorn : Int32) (v_bestMany : Int32) (v_row : List Int32) (v_column : List Int32) (v_below : List Int32) (v_way1 : List Int32) (v_bestWay : List Int32) (H : Heap) (locs : List Loc) (ls : Array Slot), fX9_ends1_40 N x1 x2 x3 s0 v_rowsOf v_columnsOf v_wishedField v_isFound v_bestWrong v_bestWorn v_bestMany v_row v_column v_below v_way1 v_bestWay = some (w_isFound, w_bestWrong, w_bestWorn, w_bestMany, w_bestWay) → va_P D mm_cl (wd_X9 cI cL cS cH a v_keptMany v_done v_rowsOf v_columnsOf v_folded v_wronged v_tapeMany v_textMany v_base v_at v_ends v_fault v_opened v_bentMany v_bentWrong v_moreWorn v_planned v_allWrong v_allWorn v_z v_wishedField v_isFound v_bestWrong v_bestWorn v_bestMany v_soughtBy v_sought v_soughtAt v_foundMany v_foundOrder v_isKept v_imageRows v_imageColumns v_imageFolded v_imageWronged v_bodies v_ran v_ownKind v_ownNumber v_limit v_changeWas v_changeIs v_shapeRows v_shapeColumns v_row v_column v_below v_face v_worn v_lastBend v_tape v_text v_names v_bends v_high v_to v_pileSize v_planLine v_planWay v_way1 v_bestWay v_order1 v_placeIn v_bodyKind v_trace v_shelf v_many v_items v_carried) H → va_D A (wd_X9 cI cL cS cH a v_keptMany v_done v_rowsOf v_columnsOf v_folded v_wronged v_tapeMany v_textMany v_base v_at v_ends v_fault v_opened v_bentMany v_bentWrong v_moreWorn v_planned v_allWrong v_allWorn v_z v_wishedField v_isFound v_bestWrong v_bestWorn v_bestMany v_soughtBy v_sought v_soughtAt v_foundMany v_foundOrder v_isKept v_imageRows v_imageColumns v_imageFolded v_imageWronged v_bodies v_ran v_ownKind v_ownNumber v_limit v_changeWas v_changeIs v_shapeRows v_shapeColumns v_row v_column v_below v_face v_worn v_lastBend v_tape v_text v_names v_bends v_high v_to v_pileSize v_planLine v_planWay v_way1 v_bestWay v_order1 v_placeIn v_bodyKind v_trace v_shelf v_many v_items v_carried) → va_S A s.heap H locs → lv_has ls 7 [(0, .ref (a 0)), (1, .int x1), (2, .int x2), (3, .int x3)] → W p l e (mm_rr d) s m args below meth c H locs 0 0 (mm_Z below D A (wd_X9 cI cL cS cH a v_keptMany v_done v_rowsOf v_columnsOf v_folded v_wronged v_tapeMany v_textMany v_base v_at v_ends v_fault v_opened v_bentMany v_bentWrong v_moreWorn v_planned v_allWrong v_allWorn v_z v_wishedField w_isFound w_bestWrong w_bestWorn w_bestMany v_soughtBy v_sought v_soughtAt v_foundMany v_foundOrder v_isKept v_imageRows v_imageColumns v_imageFolded v_imageWronged v_bodies v_ran v_ownKind v_ownNumber v_limit v_changeWas v_changeIs v_shapeRows v_shapeColumns v_row v_column v_below v_face v_worn v_lastBend v_tape v_text v_names v_bends v_high v_to v_pileSize v_planLine v_planWay v_way1 w_bestWay v_order1 v_placeIn v_bodyKind v_trace v_shelf v_many v_items v_carried) none args s) (F0 m 40 ls [.int s0]) := by
  obtain ⟨hx, hb, hml, hown, hts, hr, hlocks, hK, hSt⟩ := id C0
  intro x1 x2 x3 s0 v_rowsOf v_columnsOf v_wishedField v_isFound v_bestWrong v_bestWorn v_bestMany v_row v_column v_below v_way1 v_bestWay H locs ls hf hP hD hS hl
  unfold fX9_ends1_40 at hf
  refine lv_istore (lv' := [(5, .int s0), (0, .ref (a 0)), (1, .int x1), (2, .int x2), (3, .int x3)]) hx hb dX9_ends1_40 hl (by decide) rfl (fun ls hl => ?_)
  refine lv_aload_n hx hb dX9_ends1_42 rfl (lv_at hl 1 rfl) ?_
  refine mm_get C0 hP iw_X9 0 rfl rfl 43 (by decide) fl_X9_307 rfl dX9_ends1_43 ?_
  refine lv_if_eq (tgt := 74) hx hb dX9_ends1_46 (by decide) (fun c_7 => ?_) (fun c_7 => ?_)
  · have hf := mm_ip hf (mm_b0 c_7)
    exact tX9_ends1_74 hd C0 hA N  _ _ _ _ _ _ _ _ _ _ _ _ _ _ _ _ H locs ls hf hP hD hS (lv_sub hl [1, 2, 3, 4, 0] rfl)
  · have hf := mm_in hf (mm_b1 c_7)
    refine lv_aload_n hx hb dX9_ends1_49 rfl (lv_at hl 1 rfl) ?_
    refine mm_get C0 hP iw_X9 0 rfl rfl 40 (by decide) fl_X9_304 rfl dX9_ends1_50 ?_
    refine lv_if_lt (tgt := 74) hx hb dX9_ends1_53 (by decide) (fun c_8 => ?_) (fun c_8 => ?_)
    · have hf := mm_ip hf c_8
      exact tX9_ends1_74 hd C0 hA N  _ _ _ _ _ _ _ _ _ _ _ _ _ _ _ _ H locs ls hf hP hD hS (lv_sub hl [1, 2, 3, 4, 0] rfl)
    · have hf := mm_in hf c_8
      refine lv_iload_n hx hb dX9_ends1_56 rfl (lv_at hl 2 rfl) ?_
      refine lv_aload_n hx hb dX9_ends1_57 rfl (lv_at hl 1 rfl) ?_
      refine mm_get C0 hP iw_X9 0 rfl rfl 46 (by decide) fl_X9_311 rfl dX9_ends1_58 ?_
      refine lv_icmp_ge (tgt := 68) hx hb dX9_ends1_61 (by decide) (fun c_9 => ?_) (fun c_9 => ?_)
      · have hf := mm_ip hf c_9
        refine lv_iconst (v := 0) hx hb dX9_ends1_68 (by decide) ?_
        exact tX9_ends1_69 hd C0 hA N  _ _ _ _ _ _ _ _ _ _ _ _ _ _ _ _ H locs ls hf hP hD hS (lv_sub hl [1, 2, 3, 4] rfl)
      · have hf := mm_in hf c_9
        refine lv_iconst (v := 1) hx hb dX9_ends1_64 (by decide) ?_
        refine lv_goto (tgt := 69) hx hb dX9_ends1_65 (by decide) ?_
        exact tX9_ends1_69 hd C0 hA N  _ _ _ _ _ _ _ _ _ _ _ _ _ _ _ _ H locs ls hf hP hD hS (lv_sub hl [1, 2, 3, 4] rfl)

def fX9_ends1_28 (N : Nat)  (x1 : Int32) (x2 : Int32) (x3 : Int32) (v_rowsOf : Int32) (v_columnsOf : Int32) (v_wishedField : Int32) (v_isFound : Bool) (v_bestWrong : Int32) (v_bestWorn : Int32) (v_bestMany : Int32) (v_row : List Int32) (v_column : List Int32) (v_below : List Int32) (v_way1 : List Int32) (v_bestWay : List Int32) : Option (Bool × Int32 × Int32 × Int32 × List Int32) :=
    if v_isFound = false then
    (fX9_ends1_40 N x1 x2 x3 (1 : Int32) v_rowsOf v_columnsOf v_wishedField v_isFound v_bestWrong v_bestWorn v_bestMany v_row v_column v_below v_way1 v_bestWay)
    else (fX9_ends1_40 N x1 x2 x3 (0 : Int32) v_rowsOf v_columnsOf v_wishedField v_isFound v_bestWrong v_bestWorn v_bestMany v_row v_column v_below v_way1 v_bestWay)

set_option maxHeartbeats 4000000 in
set_option maxRecDepth 100000 in
theorem tX9_ends1_28 {p : Program} {l : Launch} {e : Env} {s : State} {m : MethodId} {args : Array Value} {below : List Frame} {meth : Method} {c : Code} {D : va_G} {cI cL cS cH : ClassId} {A : Nat → Prop} {d : Nat} {a : Nat → Nat} (hd : 4 ≤ d) (C0 : mm_Cx p s m args meth c RX9 cX9_ends1 7 none D (mm_T cI cL cS cH) A) (hA : ∀ q, s.heap.size ≤ q → A q) {v_keptMany : Int32} {v_done : Int32} {v_folded : Int32} {v_wronged : Int32} {v_tapeMany : Int32} {v_textMany : Int32} {v_base : Int32} {v_at : Int32} {v_ends : Int32} {v_fault : Int32} {v_opened : Int32} {v_bentMany : Int32} {v_bentWrong : Int32} {v_moreWorn : Int32} {v_planned : Int32} {v_allWrong : Int32} {v_allWorn : Int32} {v_z : Int32} {v_soughtBy : Int32} {v_sought : Int32} {v_soughtAt : Int32} {v_foundMany : Int32} {v_foundOrder : Int32} {v_isKept : Bool} {v_imageRows : Int32} {v_imageColumns : Int32} {v_imageFolded : Int32} {v_imageWronged : Int32} {v_bodies : Int32} {v_ran : Int32} {v_ownKind : Int32} {v_ownNumber : Int32} {v_limit : List Int32} {v_changeWas : List Int32} {v_changeIs : List Int32} {v_shapeRows : List Int32} {v_shapeColumns : List Int32} {v_face : List Int32} {v_worn : List Int32} {v_lastBend : List Int32} {v_tape : List Int32} {v_text : List Int32} {v_names : List Int32} {v_bends : List Int32} {v_high : List Int32} {v_to : List Int32} {v_pileSize : List Int32} {v_planLine : List Int32} {v_planWay : List Int32} {v_order1 : List Int32} {v_placeIn : List Int32} {v_bodyKind : List Int32} {v_trace : List Int32} {v_shelf : List Int32} {v_many : List Int32} {v_items : List Int64} {v_carried : List Int64} {w_isFound : Bool} {w_bestWrong : Int32} {w_bestWorn : Int32} {w_bestMany : Int32} {w_bestWay : List Int32} (N : Nat)  : ∀ (x1 : Int32) (x2 : Int32) (x3 : Int32) (v_rowsOf : Int32) (v_columnsOf : Int32) (v_wishedField : Int32) (v_isFound : Bool) (v_bestWrong : Int32) (v_bestWorn : Int32) (v_bestMany : Int32) (v_row : List Int32) (v_column : List Int32) (v_below : List Int32) (v_way1 : List Int32) (v_bestWay : List Int32) (H : Heap) (locs : List Loc) (ls : Array Slot), fX9_ends1_28 N x1 x2 x3 v_rowsOf v_columnsOf v_wishedField v_isFound v_bestWrong v_bestWorn v_bestMany v_row v_column v_below v_way1 v_bestWay = some (w_isFound, w_bestWrong, w_bestWorn, w_bestMany, w_bestWay) → va_P D mm_cl (wd_X9 cI cL cS cH a v_keptMany v_done v_rowsOf v_columnsOf v_folded v_wronged v_tapeMany v_textMany v_base v_at v_ends v_fault v_opened v_bentMany v_bentWrong v_moreWorn v_planned v_allWrong v_allWorn v_z v_wishedField v_isFound v_bestWrong v_bestWorn v_bestMany v_soughtBy v_sought v_soughtAt v_foundMany v_foundOrder v_isKept v_imageRows v_imageColumns v_imageFolded v_imageWronged v_bodies v_ran v_ownKind v_ownNumber v_limit v_changeWas v_changeIs v_shapeRows v_shapeColumns v_row v_column v_below v_face v_worn v_lastBend v_tape v_text v_names v_bends v_high v_to v_pileSize v_planLine v_planWay v_way1 v_bestWay v_order1 v_placeIn v_bodyKind v_trace v_shelf v_many v_items v_carried) H → va_D A (wd_X9 cI cL cS cH a v_keptMany v_done v_rowsOf v_columnsOf v_folded v_wronged v_tapeMany v_textMany v_base v_at v_ends v_fault v_opened v_bentMany v_bentWrong v_moreWorn v_planned v_allWrong v_allWorn v_z v_wishedField v_isFound v_bestWrong v_bestWorn v_bestMany v_soughtBy v_sought v_soughtAt v_foundMany v_foundOrder v_isKept v_imageRows v_imageColumns v_imageFolded v_imageWronged v_bodies v_ran v_ownKind v_ownNumber v_limit v_changeWas v_changeIs v_shapeRows v_shapeColumns v_row v_column v_below v_face v_worn v_lastBend v_tape v_text v_names v_bends v_high v_to v_pileSize v_planLine v_planWay v_way1 v_bestWay v_order1 v_placeIn v_bodyKind v_trace v_shelf v_many v_items v_carried) → va_S A s.heap H locs → lv_has ls 7 [(0, .ref (a 0)), (1, .int x1), (2, .int x2), (3, .int x3)] → W p l e (mm_rr d) s m args below meth c H locs 0 0 (mm_Z below D A (wd_X9 cI cL cS cH a v_keptMany v_done v_rowsOf v_columnsOf v_folded v_wronged v_tapeMany v_textMany v_base v_at v_ends v_fault v_opened v_bentMany v_bentWrong v_moreWorn v_planned v_allWrong v_allWorn v_z v_wishedField w_isFound w_bestWrong w_bestWorn w_bestMany v_soughtBy v_sought v_soughtAt v_foundMany v_foundOrder v_isKept v_imageRows v_imageColumns v_imageFolded v_imageWronged v_bodies v_ran v_ownKind v_ownNumber v_limit v_changeWas v_changeIs v_shapeRows v_shapeColumns v_row v_column v_below v_face v_worn v_lastBend v_tape v_text v_names v_bends v_high v_to v_pileSize v_planLine v_planWay v_way1 w_bestWay v_order1 v_placeIn v_bodyKind v_trace v_shelf v_many v_items v_carried) none args s) (F0 m 28 ls []) := by
  obtain ⟨hx, hb, hml, hown, hts, hr, hlocks, hK, hSt⟩ := id C0
  intro x1 x2 x3 v_rowsOf v_columnsOf v_wishedField v_isFound v_bestWrong v_bestWorn v_bestMany v_row v_column v_below v_way1 v_bestWay H locs ls hf hP hD hS hl
  unfold fX9_ends1_28 at hf
  refine lv_aload_n hx hb dX9_ends1_28 rfl (lv_at hl 0 rfl) ?_
  refine mm_get C0 hP iw_X9 0 rfl rfl 43 (by decide) fl_X9_307 rfl dX9_ends1_29 ?_
  refine lv_if_ne (tgt := 39) hx hb dX9_ends1_32 (by decide) (fun c_6 => ?_) (fun c_6 => ?_)
  · have hf := mm_in hf (mm_b1 c_6)
    refine lv_iconst (v := 0) hx hb dX9_ends1_39 (by decide) ?_
    exact tX9_ends1_40 hd C0 hA N  _ _ _ _ _ _ _ _ _ _ _ _ _ _ _ _ H locs ls hf hP hD hS (lv_sub hl [0, 1, 2, 3] rfl)
  · have hf := mm_ip hf (mm_b0 c_6)
    refine lv_iconst (v := 1) hx hb dX9_ends1_35 (by decide) ?_
    refine lv_goto (tgt := 40) hx hb dX9_ends1_36 (by decide) ?_
    exact tX9_ends1_40 hd C0 hA N  _ _ _ _ _ _ _ _ _ _ _ _ _ _ _ _ H locs ls hf hP hD hS (lv_sub hl [0, 1, 2, 3] rfl)

def fX9_ends1 (N : Nat) (x1 : Int32) (x2 : Int32) (x3 : Int32) (v_rowsOf : Int32) (v_columnsOf : Int32) (v_wishedField : Int32) (v_isFound : Bool) (v_bestWrong : Int32) (v_bestWorn : Int32) (v_bestMany : Int32) (v_row : List Int32) (v_column : List Int32) (v_below : List Int32) (v_way1 : List Int32) (v_bestWay : List Int32) : Option (Bool × Int32 × Int32 × Int32 × List Int32) :=
    mm_nm ((x1 + (1 : Int32))) (fun (y_1 : Int32) =>
    if v_wishedField < 0 then
    (fX9_ends1_28 N x1 x2 x3 v_rowsOf v_columnsOf v_wishedField v_isFound v_bestWrong v_bestWorn v_bestMany v_row v_column v_below v_way1 v_bestWay)
    else (mm_bd1 (fX9_topOf N y_1 (0 : Int32) (0 : Int32) v_rowsOf v_columnsOf v_row v_column v_below) (fun (r_3 : Int32) =>
    if r_3 = v_wishedField then
    (fX9_ends1_28 N x1 x2 x3 v_rowsOf v_columnsOf v_wishedField v_isFound v_bestWrong v_bestWorn v_bestMany v_row v_column v_below v_way1 v_bestWay)
    else (some (v_isFound, v_bestWrong, v_bestWorn, v_bestMany, v_bestWay)))))

set_option maxHeartbeats 4000000 in
set_option maxRecDepth 100000 in
theorem ctX9_ends1 {l : Launch} {D : va_G} {cI cL cS cH : ClassId} {a : Nat → Nat} {x1 : Int32} {x2 : Int32} {x3 : Int32} {v_keptMany : Int32} {v_done : Int32} {v_rowsOf : Int32} {v_columnsOf : Int32} {v_folded : Int32} {v_wronged : Int32} {v_tapeMany : Int32} {v_textMany : Int32} {v_base : Int32} {v_at : Int32} {v_ends : Int32} {v_fault : Int32} {v_opened : Int32} {v_bentMany : Int32} {v_bentWrong : Int32} {v_moreWorn : Int32} {v_planned : Int32} {v_allWrong : Int32} {v_allWorn : Int32} {v_z : Int32} {v_wishedField : Int32} {v_isFound : Bool} {v_bestWrong : Int32} {v_bestWorn : Int32} {v_bestMany : Int32} {v_soughtBy : Int32} {v_sought : Int32} {v_soughtAt : Int32} {v_foundMany : Int32} {v_foundOrder : Int32} {v_isKept : Bool} {v_imageRows : Int32} {v_imageColumns : Int32} {v_imageFolded : Int32} {v_imageWronged : Int32} {v_bodies : Int32} {v_ran : Int32} {v_ownKind : Int32} {v_ownNumber : Int32} {v_limit : List Int32} {v_changeWas : List Int32} {v_changeIs : List Int32} {v_shapeRows : List Int32} {v_shapeColumns : List Int32} {v_row : List Int32} {v_column : List Int32} {v_below : List Int32} {v_face : List Int32} {v_worn : List Int32} {v_lastBend : List Int32} {v_tape : List Int32} {v_text : List Int32} {v_names : List Int32} {v_bends : List Int32} {v_high : List Int32} {v_to : List Int32} {v_pileSize : List Int32} {v_planLine : List Int32} {v_planWay : List Int32} {v_way1 : List Int32} {v_bestWay : List Int32} {v_order1 : List Int32} {v_placeIn : List Int32} {v_bodyKind : List Int32} {v_trace : List Int32} {v_shelf : List Int32} {v_many : List Int32} {v_items : List Int64} {v_carried : List Int64} {w_isFound : Bool} {w_bestWrong : Int32} {w_bestWorn : Int32} {w_bestMany : Int32} {w_bestWay : List Int32} {N d : Nat} (hd : 4 ≤ d) (hf : fX9_ends1 N x1 x2 x3 v_rowsOf v_columnsOf v_wishedField v_isFound v_bestWrong v_bestWorn v_bestMany v_row v_column v_below v_way1 v_bestWay = some (w_isFound, w_bestWrong, w_bestWorn, w_bestMany, w_bestWay)) : mm_Ct l yX9_ends1 cX9_ends1 7 none d D (mm_T cI cL cS cH) [.ref (a 0), .int x1, .int x2, .int x3] (wd_X9 cI cL cS cH a v_keptMany v_done v_rowsOf v_columnsOf v_folded v_wronged v_tapeMany v_textMany v_base v_at v_ends v_fault v_opened v_bentMany v_bentWrong v_moreWorn v_planned v_allWrong v_allWorn v_z v_wishedField v_isFound v_bestWrong v_bestWorn v_bestMany v_soughtBy v_sought v_soughtAt v_foundMany v_foundOrder v_isKept v_imageRows v_imageColumns v_imageFolded v_imageWronged v_bodies v_ran v_ownKind v_ownNumber v_limit v_changeWas v_changeIs v_shapeRows v_shapeColumns v_row v_column v_below v_face v_worn v_lastBend v_tape v_text v_names v_bends v_high v_to v_pileSize v_planLine v_planWay v_way1 v_bestWay v_order1 v_placeIn v_bodyKind v_trace v_shelf v_many v_items v_carried) (wd_X9 cI cL cS cH a v_keptMany v_done v_rowsOf v_columnsOf v_folded v_wronged v_tapeMany v_textMany v_base v_at v_ends v_fault v_opened v_bentMany v_bentWrong v_moreWorn v_planned v_allWrong v_allWorn v_z v_wishedField w_isFound w_bestWrong w_bestWorn w_bestMany v_soughtBy v_sought v_soughtAt v_foundMany v_foundOrder v_isKept v_imageRows v_imageColumns v_imageFolded v_imageWronged v_bodies v_ran v_ownKind v_ownNumber v_limit v_changeWas v_changeIs v_shapeRows v_shapeColumns v_row v_column v_below v_face v_worn v_lastBend v_tape v_text v_names v_bends v_high v_to v_pileSize v_planLine v_planWay v_way1 w_bestWay v_order1 v_placeIn v_bodyKind v_trace v_shelf v_many v_items v_carried) none := by
  refine mm_of (by decide) (Nat.le_of_ble_eq_true rfl) ?_
  intro p e s m args below meth c A H locs ls C0 hP hD hA hS hl
  have C0 : mm_Cx p s m args meth c RX9 cX9_ends1 7 none D (mm_T cI cL cS cH) A := C0
  obtain ⟨hx, hb, hml, hown, hts, hr, hlocks, hK, hSt⟩ := id C0
  have hl : lv_has ls 7 [(0, .ref (a 0)), (1, .int x1), (2, .int x2), (3, .int x3)] := hl
  unfold fX9_ends1 at hf
  refine lv_iload_n hx hb dX9_ends1_0 rfl (lv_at hl 1 rfl) ?_
  refine lv_iconst (v := 1) hx hb dX9_ends1_1 (by decide) ?_
  refine lv_iadd hx hb dX9_ends1_2 ?_
  refine lv_topi (fun y_1 ey_1 => ?_)
  have hf := mm_nms hf ey_1
  refine lv_istore (lv' := [(4, .int y_1), (0, .ref (a 0)), (1, .int x1), (2, .int x2), (3, .int x3)]) hx hb dX9_ends1_3 hl (by decide) rfl (fun ls hl => ?_)
  refine lv_aload_n hx hb dX9_ends1_5 rfl (lv_at hl 1 rfl) ?_
  refine mm_get C0 hP iw_X9 0 rfl rfl 40 (by decide) fl_X9_304 rfl dX9_ends1_6 ?_
  refine lv_if_lt (tgt := 28) hx hb dX9_ends1_9 (by decide) (fun c_2 => ?_) (fun c_2 => ?_)
  · have hf := mm_ip hf c_2
    exact tX9_ends1_28 hd C0 hA N  _ _ _ _ _ _ _ _ _ _ _ _ _ _ _ H locs ls hf hP hD hS (lv_sub hl [1, 2, 3, 4] rfl)
  · have hf := mm_in hf c_2
    refine lv_aload_n hx hb dX9_ends1_12 rfl (lv_at hl 1 rfl) ?_
    refine lv_iload hx hb dX9_ends1_13 (lv_at hl 0 rfl) ?_
    refine lv_iconst (v := 0) hx hb dX9_ends1_15 (by decide) ?_
    refine lv_iconst (v := 0) hx hb dX9_ends1_16 (by decide) ?_
    obtain ⟨r_3, hc_4, hf⟩ := mm_bd1s hf
    refine mm_callVF (q0 := 0) (ci := 9) (rest := []) C0 lk_X9_298 (ctX9_topOf (a := a) (d := d - 1) (by omega) hc_4) (by omega) rfl hl.1 rfl (mm_cat rfl) dX9_ends1_17 hP hD hA hS rfl rfl (fun H locs hP hD hS => ?_)
    refine W.eq (g2 := F0 m 20 ls [.int r_3]) rfl ?_
    refine lv_aload_n hx hb dX9_ends1_20 rfl (lv_at hl 1 rfl) ?_
    refine mm_get C0 hP iw_X9 0 rfl rfl 40 (by decide) fl_X9_304 rfl dX9_ends1_21 ?_
    refine lv_icmp_eq (tgt := 28) hx hb dX9_ends1_24 (by decide) (fun c_5 => ?_) (fun c_5 => ?_)
    · have hf := mm_ip hf c_5
      exact tX9_ends1_28 hd C0 hA N  _ _ _ _ _ _ _ _ _ _ _ _ _ _ _ H locs ls hf hP hD hS (lv_sub hl [1, 2, 3, 4] rfl)
    · have hf := mm_in hf c_5
      apply mm_sub5 hf
      exact mm_vret C0 hP hD hS dX9_ends1_27
end
section
/-! reference: X9_goesDeeper, X9_searches -/
theorem nb_dX9_goesDeeper_0 : bls_w cX9_goesDeeper [(0, [27]), (1, [4]), (2, [96]), (3, [54, 4]), (5, [42]), (6, [180, 0, 19]), (9, [21, 4]), (11, [46]), (12, [4]), (13, [160, 0, 22]), (16, [42]), (17, [180, 0, 22])] := bls_of (by decide +kernel)
theorem dX9_goesDeeper_0 : decode cX9_goesDeeper 0 = .ok (.iload_n 1, 1) := op_27 nb_dX9_goesDeeper_0.1
theorem dX9_goesDeeper_1 : decode cX9_goesDeeper 1 = .ok (.iconst 1, 1) := op_4 nb_dX9_goesDeeper_0.2.1
theorem dX9_goesDeeper_2 : decode cX9_goesDeeper 2 = .ok (.iadd, 1) := op_96 nb_dX9_goesDeeper_0.2.2.1
set_option maxRecDepth 100000 in
theorem dX9_goesDeeper_3 : decode cX9_goesDeeper 3 = .ok (.istore 4, 2) := (op_54 nb_dX9_goesDeeper_0.2.2.2.1).trans rfl
theorem dX9_goesDeeper_5 : decode cX9_goesDeeper 5 = .ok (.aload_n 0, 1) := op_42 nb_dX9_goesDeeper_0.2.2.2.2.1
set_option maxRecDepth 100000 in
theorem dX9_goesDeeper_6 : decode cX9_goesDeeper 6 = .ok (.getfield 19, 3) := (op_180 nb_dX9_goesDeeper_0.2.2.2.2.2.1).trans rfl
set_option maxRecDepth 100000 in
theorem dX9_goesDeeper_9 : decode cX9_goesDeeper 9 = .ok (.iload 4, 2) := (op_21 nb_dX9_goesDeeper_0.2.2.2.2.2.2.1).trans rfl
theorem dX9_goesDeeper_11 : decode cX9_goesDeeper 11 = .ok (.iaload, 1) := op_46 nb_dX9_goesDeeper_0.2.2.2.2.2.2.2.1
theorem dX9_goesDeeper_12 : decode cX9_goesDeeper 12 = .ok (.iconst 1, 1) := op_4 nb_dX9_goesDeeper_0.2.2.2.2.2.2.2.2.1
set_option maxRecDepth 100000 in
theorem dX9_goesDeeper_13 : decode cX9_goesDeeper 13 = .ok (.if_icmp .ne 22, 3) := (op_160 nb_dX9_goesDeeper_0.2.2.2.2.2.2.2.2.2.1).trans rfl
theorem dX9_goesDeeper_16 : decode cX9_goesDeeper 16 = .ok (.aload_n 0, 1) := op_42 nb_dX9_goesDeeper_0.2.2.2.2.2.2.2.2.2.2.1
set_option maxRecDepth 100000 in
theorem dX9_goesDeeper_17 : decode cX9_goesDeeper 17 = .ok (.getfield 22, 3) := (op_180 nb_dX9_goesDeeper_0.2.2.2.2.2.2.2.2.2.2.2.1).trans rfl
theorem nb_dX9_goesDeeper_20 : bls_w cX9_goesDeeper [(20, [21, 4]), (22, [46]), (23, [4]), (24, [160, 0, 11]), (27, [42]), (28, [27]), (29, [28]), (30, [29]), (31, [182, 1, 64]), (34, [177]), (35, [42]), (36, [180, 0, 19])] := bls_of (by decide +kernel)
set_option maxRecDepth 100000 in
theorem dX9_goesDeeper_20 : decode cX9_goesDeeper 20 = .ok (.iload 4, 2) := (op_21 nb_dX9_goesDeeper_20.1).trans rfl
theorem dX9_goesDeeper_22 : decode cX9_goesDeeper 22 = .ok (.iaload, 1) := op_46 nb_dX9_goesDeeper_20.2.1
theorem dX9_goesDeeper_23 : decode cX9_goesDeeper 23 = .ok (.iconst 1, 1) := op_4 nb_dX9_goesDeeper_20.2.2.1
set_option maxRecDepth 100000 in
theorem dX9_goesDeeper_24 : decode cX9_goesDeeper 24 = .ok (.if_icmp .ne 11, 3) := (op_160 nb_dX9_goesDeeper_20.2.2.2.1).trans rfl
theorem dX9_goesDeeper_27 : decode cX9_goesDeeper 27 = .ok (.aload_n 0, 1) := op_42 nb_dX9_goesDeeper_20.2.2.2.2.1
theorem dX9_goesDeeper_28 : decode cX9_goesDeeper 28 = .ok (.iload_n 1, 1) := op_27 nb_dX9_goesDeeper_20.2.2.2.2.2.1
theorem dX9_goesDeeper_29 : decode cX9_goesDeeper 29 = .ok (.iload_n 2, 1) := op_28 nb_dX9_goesDeeper_20.2.2.2.2.2.2.1
theorem dX9_goesDeeper_30 : decode cX9_goesDeeper 30 = .ok (.iload_n 3, 1) := op_29 nb_dX9_goesDeeper_20.2.2.2.2.2.2.2.1
set_option maxRecDepth 100000 in
theorem dX9_goesDeeper_31 : decode cX9_goesDeeper 31 = .ok (.invokevirtual 320, 3) := (op_182 nb_dX9_goesDeeper_20.2.2.2.2.2.2.2.2.1).trans rfl
theorem dX9_goesDeeper_34 : decode cX9_goesDeeper 34 = .ok (.return_, 1) := op_177 nb_dX9_goesDeeper_20.2.2.2.2.2.2.2.2.2.1
theorem dX9_goesDeeper_35 : decode cX9_goesDeeper 35 = .ok (.aload_n 0, 1) := op_42 nb_dX9_goesDeeper_20.2.2.2.2.2.2.2.2.2.2.1
set_option maxRecDepth 100000 in
theorem dX9_goesDeeper_36 : decode cX9_goesDeeper 36 = .ok (.getfield 19, 3) := (op_180 nb_dX9_goesDeeper_20.2.2.2.2.2.2.2.2.2.2.2.1).trans rfl
theorem nb_dX9_goesDeeper_39 : bls_w cX9_goesDeeper [(39, [21, 4]), (41, [46]), (42, [184, 1, 67]), (45, [42]), (46, [180, 0, 22]), (49, [21, 4]), (51, [46]), (52, [184, 1, 67]), (55, [96]), (56, [6]), (57, [27]), (58, [100])] := bls_of (by decide +kernel)
set_option maxRecDepth 100000 in
theorem dX9_goesDeeper_39 : decode cX9_goesDeeper 39 = .ok (.iload 4, 2) := (op_21 nb_dX9_goesDeeper_39.1).trans rfl
theorem dX9_goesDeeper_41 : decode cX9_goesDeeper 41 = .ok (.iaload, 1) := op_46 nb_dX9_goesDeeper_39.2.1
set_option maxRecDepth 100000 in
theorem dX9_goesDeeper_42 : decode cX9_goesDeeper 42 = .ok (.invokestatic 323, 3) := (op_184 nb_dX9_goesDeeper_39.2.2.1).trans rfl
theorem dX9_goesDeeper_45 : decode cX9_goesDeeper 45 = .ok (.aload_n 0, 1) := op_42 nb_dX9_goesDeeper_39.2.2.2.1
set_option maxRecDepth 100000 in
theorem dX9_goesDeeper_46 : decode cX9_goesDeeper 46 = .ok (.getfield 22, 3) := (op_180 nb_dX9_goesDeeper_39.2.2.2.2.1).trans rfl
set_option maxRecDepth 100000 in
theorem dX9_goesDeeper_49 : decode cX9_goesDeeper 49 = .ok (.iload 4, 2) := (op_21 nb_dX9_goesDeeper_39.2.2.2.2.2.1).trans rfl
theorem dX9_goesDeeper_51 : decode cX9_goesDeeper 51 = .ok (.iaload, 1) := op_46 nb_dX9_goesDeeper_39.2.2.2.2.2.2.1
set_option maxRecDepth 100000 in
theorem dX9_goesDeeper_52 : decode cX9_goesDeeper 52 = .ok (.invokestatic 323, 3) := (op_184 nb_dX9_goesDeeper_39.2.2.2.2.2.2.2.1).trans rfl
theorem dX9_goesDeeper_55 : decode cX9_goesDeeper 55 = .ok (.iadd, 1) := op_96 nb_dX9_goesDeeper_39.2.2.2.2.2.2.2.2.1
theorem dX9_goesDeeper_56 : decode cX9_goesDeeper 56 = .ok (.iconst 3, 1) := op_6 nb_dX9_goesDeeper_39.2.2.2.2.2.2.2.2.2.1
theorem dX9_goesDeeper_57 : decode cX9_goesDeeper 57 = .ok (.iload_n 1, 1) := op_27 nb_dX9_goesDeeper_39.2.2.2.2.2.2.2.2.2.2.1
theorem dX9_goesDeeper_58 : decode cX9_goesDeeper 58 = .ok (.isub, 1) := op_100 nb_dX9_goesDeeper_39.2.2.2.2.2.2.2.2.2.2.2.1
theorem nb_dX9_goesDeeper_59 : bls_w cX9_goesDeeper [(59, [164, 0, 4]), (62, [177]), (63, [4]), (64, [54, 5]), (66, [21, 5]), (68, [16, 8]), (70, [162, 0, 96]), (73, [3]), (74, [54, 6]), (76, [21, 6]), (78, [16, 8]), (80, [162, 0, 80])] := bls_of (by decide +kernel)
set_option maxRecDepth 100000 in
theorem dX9_goesDeeper_59 : decode cX9_goesDeeper 59 = .ok (.if_icmp .le 4, 3) := (op_164 nb_dX9_goesDeeper_59.1).trans rfl
theorem dX9_goesDeeper_62 : decode cX9_goesDeeper 62 = .ok (.return_, 1) := op_177 nb_dX9_goesDeeper_59.2.1
theorem dX9_goesDeeper_63 : decode cX9_goesDeeper 63 = .ok (.iconst 1, 1) := op_4 nb_dX9_goesDeeper_59.2.2.1
set_option maxRecDepth 100000 in
theorem dX9_goesDeeper_64 : decode cX9_goesDeeper 64 = .ok (.istore 5, 2) := (op_54 nb_dX9_goesDeeper_59.2.2.2.1).trans rfl
set_option maxRecDepth 100000 in
theorem dX9_goesDeeper_66 : decode cX9_goesDeeper 66 = .ok (.iload 5, 2) := (op_21 nb_dX9_goesDeeper_59.2.2.2.2.1).trans rfl
set_option maxRecDepth 100000 in
theorem dX9_goesDeeper_68 : decode cX9_goesDeeper 68 = .ok (.bipush 8, 2) := (op_16 nb_dX9_goesDeeper_59.2.2.2.2.2.1).trans rfl
set_option maxRecDepth 100000 in
theorem dX9_goesDeeper_70 : decode cX9_goesDeeper 70 = .ok (.if_icmp .ge 96, 3) := (op_162 nb_dX9_goesDeeper_59.2.2.2.2.2.2.1).trans rfl
theorem dX9_goesDeeper_73 : decode cX9_goesDeeper 73 = .ok (.iconst 0, 1) := op_3 nb_dX9_goesDeeper_59.2.2.2.2.2.2.2.1
set_option maxRecDepth 100000 in
theorem dX9_goesDeeper_74 : decode cX9_goesDeeper 74 = .ok (.istore 6, 2) := (op_54 nb_dX9_goesDeeper_59.2.2.2.2.2.2.2.2.1).trans rfl
set_option maxRecDepth 100000 in
theorem dX9_goesDeeper_76 : decode cX9_goesDeeper 76 = .ok (.iload 6, 2) := (op_21 nb_dX9_goesDeeper_59.2.2.2.2.2.2.2.2.2.1).trans rfl
set_option maxRecDepth 100000 in
theorem dX9_goesDeeper_78 : decode cX9_goesDeeper 78 = .ok (.bipush 8, 2) := (op_16 nb_dX9_goesDeeper_59.2.2.2.2.2.2.2.2.2.2.1).trans rfl
set_option maxRecDepth 100000 in
theorem dX9_goesDeeper_80 : decode cX9_goesDeeper 80 = .ok (.if_icmp .ge 80, 3) := (op_162 nb_dX9_goesDeeper_59.2.2.2.2.2.2.2.2.2.2.2.1).trans rfl
theorem nb_dX9_goesDeeper_83 : bls_w cX9_goesDeeper [(83, [42]), (84, [21, 4]), (86, [21, 5]), (88, [21, 6]), (90, [182, 0, 240]), (93, [154, 0, 6]), (96, [167, 0, 58]), (99, [42]), (100, [21, 4]), (102, [21, 4]), (104, [4]), (105, [96])] := bls_of (by decide +kernel)
theorem dX9_goesDeeper_83 : decode cX9_goesDeeper 83 = .ok (.aload_n 0, 1) := op_42 nb_dX9_goesDeeper_83.1
set_option maxRecDepth 100000 in
theorem dX9_goesDeeper_84 : decode cX9_goesDeeper 84 = .ok (.iload 4, 2) := (op_21 nb_dX9_goesDeeper_83.2.1).trans rfl
set_option maxRecDepth 100000 in
theorem dX9_goesDeeper_86 : decode cX9_goesDeeper 86 = .ok (.iload 5, 2) := (op_21 nb_dX9_goesDeeper_83.2.2.1).trans rfl
set_option maxRecDepth 100000 in
theorem dX9_goesDeeper_88 : decode cX9_goesDeeper 88 = .ok (.iload 6, 2) := (op_21 nb_dX9_goesDeeper_83.2.2.2.1).trans rfl
set_option maxRecDepth 100000 in
theorem dX9_goesDeeper_90 : decode cX9_goesDeeper 90 = .ok (.invokevirtual 240, 3) := (op_182 nb_dX9_goesDeeper_83.2.2.2.2.1).trans rfl
set_option maxRecDepth 100000 in
theorem dX9_goesDeeper_93 : decode cX9_goesDeeper 93 = .ok (.ifCond .ne 6, 3) := (op_154 nb_dX9_goesDeeper_83.2.2.2.2.2.1).trans rfl
set_option maxRecDepth 100000 in
theorem dX9_goesDeeper_96 : decode cX9_goesDeeper 96 = .ok (.goto 58, 3) := (op_167 nb_dX9_goesDeeper_83.2.2.2.2.2.2.1).trans rfl
theorem dX9_goesDeeper_99 : decode cX9_goesDeeper 99 = .ok (.aload_n 0, 1) := op_42 nb_dX9_goesDeeper_83.2.2.2.2.2.2.2.1
set_option maxRecDepth 100000 in
theorem dX9_goesDeeper_100 : decode cX9_goesDeeper 100 = .ok (.iload 4, 2) := (op_21 nb_dX9_goesDeeper_83.2.2.2.2.2.2.2.2.1).trans rfl
set_option maxRecDepth 100000 in
theorem dX9_goesDeeper_102 : decode cX9_goesDeeper 102 = .ok (.iload 4, 2) := (op_21 nb_dX9_goesDeeper_83.2.2.2.2.2.2.2.2.2.1).trans rfl
theorem dX9_goesDeeper_104 : decode cX9_goesDeeper 104 = .ok (.iconst 1, 1) := op_4 nb_dX9_goesDeeper_83.2.2.2.2.2.2.2.2.2.2.1
theorem dX9_goesDeeper_105 : decode cX9_goesDeeper 105 = .ok (.iadd, 1) := op_96 nb_dX9_goesDeeper_83.2.2.2.2.2.2.2.2.2.2.2.1
theorem nb_dX9_goesDeeper_106 : bls_w cX9_goesDeeper [(106, [182, 1, 70]), (109, [42]), (110, [21, 4]), (112, [4]), (113, [96]), (114, [21, 5]), (116, [21, 6]), (118, [182, 0, 244]), (121, [42]), (122, [180, 0, 70]), (125, [27]), (126, [16, 10])] := bls_of (by decide +kernel)
set_option maxRecDepth 100000 in
theorem dX9_goesDeeper_106 : decode cX9_goesDeeper 106 = .ok (.invokevirtual 326, 3) := (op_182 nb_dX9_goesDeeper_106.1).trans rfl
theorem dX9_goesDeeper_109 : decode cX9_goesDeeper 109 = .ok (.aload_n 0, 1) := op_42 nb_dX9_goesDeeper_106.2.1
set_option maxRecDepth 100000 in
theorem dX9_goesDeeper_110 : decode cX9_goesDeeper 110 = .ok (.iload 4, 2) := (op_21 nb_dX9_goesDeeper_106.2.2.1).trans rfl
theorem dX9_goesDeeper_112 : decode cX9_goesDeeper 112 = .ok (.iconst 1, 1) := op_4 nb_dX9_goesDeeper_106.2.2.2.1
theorem dX9_goesDeeper_113 : decode cX9_goesDeeper 113 = .ok (.iadd, 1) := op_96 nb_dX9_goesDeeper_106.2.2.2.2.1
set_option maxRecDepth 100000 in
theorem dX9_goesDeeper_114 : decode cX9_goesDeeper 114 = .ok (.iload 5, 2) := (op_21 nb_dX9_goesDeeper_106.2.2.2.2.2.1).trans rfl
set_option maxRecDepth 100000 in
theorem dX9_goesDeeper_116 : decode cX9_goesDeeper 116 = .ok (.iload 6, 2) := (op_21 nb_dX9_goesDeeper_106.2.2.2.2.2.2.1).trans rfl
set_option maxRecDepth 100000 in
theorem dX9_goesDeeper_118 : decode cX9_goesDeeper 118 = .ok (.invokevirtual 244, 3) := (op_182 nb_dX9_goesDeeper_106.2.2.2.2.2.2.2.1).trans rfl
theorem dX9_goesDeeper_121 : decode cX9_goesDeeper 121 = .ok (.aload_n 0, 1) := op_42 nb_dX9_goesDeeper_106.2.2.2.2.2.2.2.2.1
set_option maxRecDepth 100000 in
theorem dX9_goesDeeper_122 : decode cX9_goesDeeper 122 = .ok (.getfield 70, 3) := (op_180 nb_dX9_goesDeeper_106.2.2.2.2.2.2.2.2.2.1).trans rfl
theorem dX9_goesDeeper_125 : decode cX9_goesDeeper 125 = .ok (.iload_n 1, 1) := op_27 nb_dX9_goesDeeper_106.2.2.2.2.2.2.2.2.2.2.1
set_option maxRecDepth 100000 in
theorem dX9_goesDeeper_126 : decode cX9_goesDeeper 126 = .ok (.bipush 10, 2) := (op_16 nb_dX9_goesDeeper_106.2.2.2.2.2.2.2.2.2.2.2.1).trans rfl
theorem nb_dX9_goesDeeper_128 : bls_w cX9_goesDeeper [(128, [21, 5]), (130, [104]), (131, [21, 6]), (133, [96]), (134, [79]), (135, [42]), (136, [27]), (137, [4]), (138, [96]), (139, [28]), (140, [42]), (141, [180, 0, 211])] := bls_of (by decide +kernel)
set_option maxRecDepth 100000 in
theorem dX9_goesDeeper_128 : decode cX9_goesDeeper 128 = .ok (.iload 5, 2) := (op_21 nb_dX9_goesDeeper_128.1).trans rfl
theorem dX9_goesDeeper_130 : decode cX9_goesDeeper 130 = .ok (.imul, 1) := op_104 nb_dX9_goesDeeper_128.2.1
set_option maxRecDepth 100000 in
theorem dX9_goesDeeper_131 : decode cX9_goesDeeper 131 = .ok (.iload 6, 2) := (op_21 nb_dX9_goesDeeper_128.2.2.1).trans rfl
theorem dX9_goesDeeper_133 : decode cX9_goesDeeper 133 = .ok (.iadd, 1) := op_96 nb_dX9_goesDeeper_128.2.2.2.1
theorem dX9_goesDeeper_134 : decode cX9_goesDeeper 134 = .ok (.iastore, 1) := op_79 nb_dX9_goesDeeper_128.2.2.2.2.1
theorem dX9_goesDeeper_135 : decode cX9_goesDeeper 135 = .ok (.aload_n 0, 1) := op_42 nb_dX9_goesDeeper_128.2.2.2.2.2.1
theorem dX9_goesDeeper_136 : decode cX9_goesDeeper 136 = .ok (.iload_n 1, 1) := op_27 nb_dX9_goesDeeper_128.2.2.2.2.2.2.1
theorem dX9_goesDeeper_137 : decode cX9_goesDeeper 137 = .ok (.iconst 1, 1) := op_4 nb_dX9_goesDeeper_128.2.2.2.2.2.2.2.1
theorem dX9_goesDeeper_138 : decode cX9_goesDeeper 138 = .ok (.iadd, 1) := op_96 nb_dX9_goesDeeper_128.2.2.2.2.2.2.2.2.1
theorem dX9_goesDeeper_139 : decode cX9_goesDeeper 139 = .ok (.iload_n 2, 1) := op_28 nb_dX9_goesDeeper_128.2.2.2.2.2.2.2.2.2.1
theorem dX9_goesDeeper_140 : decode cX9_goesDeeper 140 = .ok (.aload_n 0, 1) := op_42 nb_dX9_goesDeeper_128.2.2.2.2.2.2.2.2.2.2.1
set_option maxRecDepth 100000 in
theorem dX9_goesDeeper_141 : decode cX9_goesDeeper 141 = .ok (.getfield 211, 3) := (op_180 nb_dX9_goesDeeper_128.2.2.2.2.2.2.2.2.2.2.2.1).trans rfl
theorem nb_dX9_goesDeeper_144 : bls_w cX9_goesDeeper [(144, [96]), (145, [29]), (146, [42]), (147, [180, 0, 214]), (150, [96]), (151, [182, 1, 73]), (154, [132, 6, 1]), (157, [167, 255, 175]), (160, [132, 5, 1]), (163, [167, 255, 159]), (166, [177])] := bls_of (by decide +kernel)
theorem dX9_goesDeeper_144 : decode cX9_goesDeeper 144 = .ok (.iadd, 1) := op_96 nb_dX9_goesDeeper_144.1
theorem dX9_goesDeeper_145 : decode cX9_goesDeeper 145 = .ok (.iload_n 3, 1) := op_29 nb_dX9_goesDeeper_144.2.1
theorem dX9_goesDeeper_146 : decode cX9_goesDeeper 146 = .ok (.aload_n 0, 1) := op_42 nb_dX9_goesDeeper_144.2.2.1
set_option maxRecDepth 100000 in
theorem dX9_goesDeeper_147 : decode cX9_goesDeeper 147 = .ok (.getfield 214, 3) := (op_180 nb_dX9_goesDeeper_144.2.2.2.1).trans rfl
theorem dX9_goesDeeper_150 : decode cX9_goesDeeper 150 = .ok (.iadd, 1) := op_96 nb_dX9_goesDeeper_144.2.2.2.2.1
set_option maxRecDepth 100000 in
theorem dX9_goesDeeper_151 : decode cX9_goesDeeper 151 = .ok (.invokevirtual 329, 3) := (op_182 nb_dX9_goesDeeper_144.2.2.2.2.2.1).trans rfl
set_option maxRecDepth 100000 in
theorem dX9_goesDeeper_154 : decode cX9_goesDeeper 154 = .ok (.iinc 6 1, 3) := (op_132 nb_dX9_goesDeeper_144.2.2.2.2.2.2.1).trans rfl
set_option maxRecDepth 100000 in
theorem dX9_goesDeeper_157 : decode cX9_goesDeeper 157 = .ok (.goto (-81), 3) := (op_167 nb_dX9_goesDeeper_144.2.2.2.2.2.2.2.1).trans rfl
set_option maxRecDepth 100000 in
theorem dX9_goesDeeper_160 : decode cX9_goesDeeper 160 = .ok (.iinc 5 1, 3) := (op_132 nb_dX9_goesDeeper_144.2.2.2.2.2.2.2.2.1).trans rfl
set_option maxRecDepth 100000 in
theorem dX9_goesDeeper_163 : decode cX9_goesDeeper 163 = .ok (.goto (-97), 3) := (op_167 nb_dX9_goesDeeper_144.2.2.2.2.2.2.2.2.2.1).trans rfl
theorem dX9_goesDeeper_166 : decode cX9_goesDeeper 166 = .ok (.return_, 1) := op_177 nb_dX9_goesDeeper_144.2.2.2.2.2.2.2.2.2.2.1
def fX9_goesDeeper_154 (N : Nat) (go : Int32 → Int32 → Int32 → Int32 → Int32 → Int32 → Int32 → Int32 → Int32 → Int32 → Int32 → Int32 → Int32 → Int32 → Int32 → Bool → Int32 → Int32 → Int32 → List Int32 → List Int32 → List Int32 → List Int32 → List Int32 → List Int32 → List Int32 → List Int32 → List Int32 → List Int32 → List Int32 → List Int32 → List Int32 → List Int32 → List Int32 → List Int32 → List Int32 → List Int32 → Option (Int32 × Int32 × Int32 × Int32 × Int32 × Int32 × Int32 × Int32 × Bool × Int32 × Int32 × Int32 × List Int32 × List Int32 × List Int32 × List Int32 × List Int32 × List Int32 × List Int32 × List Int32 × List Int32 × List Int32 × List Int32 × List Int32 × List Int32 × List Int32 × List Int32)) (k_66 : Int32 → Int32 → Int32 → Int32 → Int32 → Int32 → Int32 → Int32 → Int32 → Int32 → Int32 → Int32 → Int32 → Int32 → Int32 → Int32 → Int32 → Bool → Int32 → Int32 → Int32 → List Int32 → List Int32 → List Int32 → List Int32 → List Int32 → List Int32 → List Int32 → List Int32 → List Int32 → List Int32 → List Int32 → List Int32 → List Int32 → List Int32 → List Int32 → List Int32 → List Int32 → List Int32 → Option (Int32 × Int32 × Int32 × Int32 × Int32 × Int32 × Int32 × Int32 × Bool × Int32 × Int32 × Int32 × List Int32 × List Int32 × List Int32 × List Int32 × List Int32 × List Int32 × List Int32 × List Int32 × List Int32 × List Int32 × List Int32 × List Int32 × List Int32 × List Int32 × List Int32)) (k_76 : Int32 → Int32 → Int32 → Int32 → Int32 → Int32 → Int32 → Int32 → Int32 → Int32 → Int32 → Int32 → Int32 → Int32 → Int32 → Int32 → Int32 → Int32 → Bool → Int32 → Int32 → Int32 → List Int32 → List Int32 → List Int32 → List Int32 → List Int32 → List Int32 → List Int32 → List Int32 → List Int32 → List Int32 → List Int32 → List Int32 → List Int32 → List Int32 → List Int32 → List Int32 → List Int32 → List Int32 → Option (Int32 × Int32 × Int32 × Int32 × Int32 × Int32 × Int32 × Int32 × Bool × Int32 × Int32 × Int32 × List Int32 × List Int32 × List Int32 × List Int32 × List Int32 × List Int32 × List Int32 × List Int32 × List Int32 × List Int32 × List Int32 × List Int32 × List Int32 × List Int32 × List Int32)) (x1 : Int32) (x2 : Int32) (x3 : Int32) (x4 : Int32) (x5 : Int32) (x6 : Int32) (v_rowsOf : Int32) (v_columnsOf : Int32) (v_textMany : Int32) (v_base : Int32) (v_at : Int32) (v_ends : Int32) (v_fault : Int32) (v_opened : Int32) (v_bentMany : Int32) (v_bentWrong : Int32) (v_moreWorn : Int32) (v_wishedField : Int32) (v_isFound : Bool) (v_bestWrong : Int32) (v_bestWorn : Int32) (v_bestMany : Int32) (v_limit : List Int32) (v_shapeRows : List Int32) (v_shapeColumns : List Int32) (v_row : List Int32) (v_column : List Int32) (v_below : List Int32) (v_face : List Int32) (v_worn : List Int32) (v_lastBend : List Int32) (v_tape : List Int32) (v_text : List Int32) (v_names : List Int32) (v_bends : List Int32) (v_high : List Int32) (v_to : List Int32) (v_pileSize : List Int32) (v_way1 : List Int32) (v_bestWay : List Int32) : Option (Int32 × Int32 × Int32 × Int32 × Int32 × Int32 × Int32 × Int32 × Bool × Int32 × Int32 × Int32 × List Int32 × List Int32 × List Int32 × List Int32 × List Int32 × List Int32 × List Int32 × List Int32 × List Int32 × List Int32 × List Int32 × List Int32 × List Int32 × List Int32 × List Int32) :=
    mm_nm (x6 + (1 : Int32)) (fun (y_87 : Int32) =>
    k_76 x1 x2 x3 x4 x5 y_87 v_rowsOf v_columnsOf v_textMany v_base v_at v_ends v_fault v_opened v_bentMany v_bentWrong v_moreWorn v_wishedField v_isFound v_bestWrong v_bestWorn v_bestMany v_limit v_shapeRows v_shapeColumns v_row v_column v_below v_face v_worn v_lastBend v_tape v_text v_names v_bends v_high v_to v_pileSize v_way1 v_bestWay)

set_option maxHeartbeats 4000000 in
set_option maxRecDepth 100000 in
theorem tX9_goesDeeper_154 {p : Program} {l : Launch} {e : Env} {s : State} {m : MethodId} {args : Array Value} {below : List Frame} {meth : Method} {c : Code} {D : va_G} {cI cL cS cH : ClassId} {A : Nat → Prop} {d : Nat} {a : Nat → Nat} {go : Int32 → Int32 → Int32 → Int32 → Int32 → Int32 → Int32 → Int32 → Int32 → Int32 → Int32 → Int32 → Int32 → Int32 → Int32 → Bool → Int32 → Int32 → Int32 → List Int32 → List Int32 → List Int32 → List Int32 → List Int32 → List Int32 → List Int32 → List Int32 → List Int32 → List Int32 → List Int32 → List Int32 → List Int32 → List Int32 → List Int32 → List Int32 → List Int32 → List Int32 → Option (Int32 × Int32 × Int32 × Int32 × Int32 × Int32 × Int32 × Int32 × Bool × Int32 × Int32 × Int32 × List Int32 × List Int32 × List Int32 × List Int32 × List Int32 × List Int32 × List Int32 × List Int32 × List Int32 × List Int32 × List Int32 × List Int32 × List Int32 × List Int32 × List Int32)} {dgo : Nat} (hgo : ∀ (a : Nat → Nat) (x1 : Int32) (x2 : Int32) (x3 : Int32) (v_keptMany : Int32) (v_done : Int32) (v_rowsOf : Int32) (v_columnsOf : Int32) (v_folded : Int32) (v_wronged : Int32) (v_tapeMany : Int32) (v_textMany : Int32) (v_base : Int32) (v_at : Int32) (v_ends : Int32) (v_fault : Int32) (v_opened : Int32) (v_bentMany : Int32) (v_bentWrong : Int32) (v_moreWorn : Int32) (v_planned : Int32) (v_allWrong : Int32) (v_allWorn : Int32) (v_z : Int32) (v_wishedField : Int32) (v_isFound : Bool) (v_bestWrong : Int32) (v_bestWorn : Int32) (v_bestMany : Int32) (v_soughtBy : Int32) (v_sought : Int32) (v_soughtAt : Int32) (v_foundMany : Int32) (v_foundOrder : Int32) (v_isKept : Bool) (v_imageRows : Int32) (v_imageColumns : Int32) (v_imageFolded : Int32) (v_imageWronged : Int32) (v_bodies : Int32) (v_ran : Int32) (v_ownKind : Int32) (v_ownNumber : Int32) (v_limit : List Int32) (v_changeWas : List Int32) (v_changeIs : List Int32) (v_shapeRows : List Int32) (v_shapeColumns : List Int32) (v_row : List Int32) (v_column : List Int32) (v_below : List Int32) (v_face : List Int32) (v_worn : List Int32) (v_lastBend : List Int32) (v_tape : List Int32) (v_text : List Int32) (v_names : List Int32) (v_bends : List Int32) (v_high : List Int32) (v_to : List Int32) (v_pileSize : List Int32) (v_planLine : List Int32) (v_planWay : List Int32) (v_way1 : List Int32) (v_bestWay : List Int32) (v_order1 : List Int32) (v_placeIn : List Int32) (v_bodyKind : List Int32) (v_trace : List Int32) (v_shelf : List Int32) (v_many : List Int32) (v_items : List Int64) (v_carried : List Int64) (w_base : Int32) (w_at : Int32) (w_ends : Int32) (w_fault : Int32) (w_opened : Int32) (w_bentMany : Int32) (w_bentWrong : Int32) (w_moreWorn : Int32) (w_isFound : Bool) (w_bestWrong : Int32) (w_bestWorn : Int32) (w_bestMany : Int32) (w_shapeRows : List Int32) (w_shapeColumns : List Int32) (w_row : List Int32) (w_column : List Int32) (w_below : List Int32) (w_face : List Int32) (w_worn : List Int32) (w_lastBend : List Int32) (w_names : List Int32) (w_bends : List Int32) (w_high : List Int32) (w_to : List Int32) (w_pileSize : List Int32) (w_way1 : List Int32) (w_bestWay : List Int32), go x1 x2 x3 v_rowsOf v_columnsOf v_textMany v_base v_at v_ends v_fault v_opened v_bentMany v_bentWrong v_moreWorn v_wishedField v_isFound v_bestWrong v_bestWorn v_bestMany v_limit v_shapeRows v_shapeColumns v_row v_column v_below v_face v_worn v_lastBend v_tape v_text v_names v_bends v_high v_to v_pileSize v_way1 v_bestWay = some (w_base, w_at, w_ends, w_fault, w_opened, w_bentMany, w_bentWrong, w_moreWorn, w_isFound, w_bestWrong, w_bestWorn, w_bestMany, w_shapeRows, w_shapeColumns, w_row, w_column, w_below, w_face, w_worn, w_lastBend, w_names, w_bends, w_high, w_to, w_pileSize, w_way1, w_bestWay) → mm_Ct l yX9_goesDeeper cX9_goesDeeper 7 none dgo D (mm_T cI cL cS cH) [.ref (a 0), .int x1, .int x2, .int x3] (wd_X9 cI cL cS cH a v_keptMany v_done v_rowsOf v_columnsOf v_folded v_wronged v_tapeMany v_textMany v_base v_at v_ends v_fault v_opened v_bentMany v_bentWrong v_moreWorn v_planned v_allWrong v_allWorn v_z v_wishedField v_isFound v_bestWrong v_bestWorn v_bestMany v_soughtBy v_sought v_soughtAt v_foundMany v_foundOrder v_isKept v_imageRows v_imageColumns v_imageFolded v_imageWronged v_bodies v_ran v_ownKind v_ownNumber v_limit v_changeWas v_changeIs v_shapeRows v_shapeColumns v_row v_column v_below v_face v_worn v_lastBend v_tape v_text v_names v_bends v_high v_to v_pileSize v_planLine v_planWay v_way1 v_bestWay v_order1 v_placeIn v_bodyKind v_trace v_shelf v_many v_items v_carried) (wd_X9 cI cL cS cH a v_keptMany v_done v_rowsOf v_columnsOf v_folded v_wronged v_tapeMany v_textMany w_base w_at w_ends w_fault w_opened w_bentMany w_bentWrong w_moreWorn v_planned v_allWrong v_allWorn v_z v_wishedField w_isFound w_bestWrong w_bestWorn w_bestMany v_soughtBy v_sought v_soughtAt v_foundMany v_foundOrder v_isKept v_imageRows v_imageColumns v_imageFolded v_imageWronged v_bodies v_ran v_ownKind v_ownNumber v_limit v_changeWas v_changeIs w_shapeRows w_shapeColumns w_row w_column w_below w_face w_worn w_lastBend v_tape v_text w_names w_bends w_high w_to w_pileSize v_planLine v_planWay w_way1 w_bestWay v_order1 v_placeIn v_bodyKind v_trace v_shelf v_many v_items v_carried) none) (hE : 59 ≤ dgo) (hd : dgo + 1 ≤ d) (C0 : mm_Cx p s m args meth c RX9 cX9_goesDeeper 7 none D (mm_T cI cL cS cH) A) (hA : ∀ q, s.heap.size ≤ q → A q) {v_keptMany : Int32} {v_done : Int32} {v_folded : Int32} {v_wronged : Int32} {v_tapeMany : Int32} {v_planned : Int32} {v_allWrong : Int32} {v_allWorn : Int32} {v_z : Int32} {v_soughtBy : Int32} {v_sought : Int32} {v_soughtAt : Int32} {v_foundMany : Int32} {v_foundOrder : Int32} {v_isKept : Bool} {v_imageRows : Int32} {v_imageColumns : Int32} {v_imageFolded : Int32} {v_imageWronged : Int32} {v_bodies : Int32} {v_ran : Int32} {v_ownKind : Int32} {v_ownNumber : Int32} {v_changeWas : List Int32} {v_changeIs : List Int32} {v_planLine : List Int32} {v_planWay : List Int32} {v_order1 : List Int32} {v_placeIn : List Int32} {v_bodyKind : List Int32} {v_trace : List Int32} {v_shelf : List Int32} {v_many : List Int32} {v_items : List Int64} {v_carried : List Int64} {w_base : Int32} {w_at : Int32} {w_ends : Int32} {w_fault : Int32} {w_opened : Int32} {w_bentMany : Int32} {w_bentWrong : Int32} {w_moreWorn : Int32} {w_isFound : Bool} {w_bestWrong : Int32} {w_bestWorn : Int32} {w_bestMany : Int32} {w_shapeRows : List Int32} {w_shapeColumns : List Int32} {w_row : List Int32} {w_column : List Int32} {w_below : List Int32} {w_face : List Int32} {w_worn : List Int32} {w_lastBend : List Int32} {w_names : List Int32} {w_bends : List Int32} {w_high : List Int32} {w_to : List Int32} {w_pileSize : List Int32} {w_way1 : List Int32} {w_bestWay : List Int32} (N : Nat) {k_66 : Int32 → Int32 → Int32 → Int32 → Int32 → Int32 → Int32 → Int32 → Int32 → Int32 → Int32 → Int32 → Int32 → Int32 → Int32 → Int32 → Int32 → Bool → Int32 → Int32 → Int32 → List Int32 → List Int32 → List Int32 → List Int32 → List Int32 → List Int32 → List Int32 → List Int32 → List Int32 → List Int32 → List Int32 → List Int32 → List Int32 → List Int32 → List Int32 → List Int32 → List Int32 → List Int32 → Option (Int32 × Int32 × Int32 × Int32 × Int32 × Int32 × Int32 × Int32 × Bool × Int32 × Int32 × Int32 × List Int32 × List Int32 × List Int32 × List Int32 × List Int32 × List Int32 × List Int32 × List Int32 × List Int32 × List Int32 × List Int32 × List Int32 × List Int32 × List Int32 × List Int32)} (hk_66 : ∀ (x1 : Int32) (x2 : Int32) (x3 : Int32) (x4 : Int32) (x5 : Int32) (v_rowsOf : Int32) (v_columnsOf : Int32) (v_textMany : Int32) (v_base : Int32) (v_at : Int32) (v_ends : Int32) (v_fault : Int32) (v_opened : Int32) (v_bentMany : Int32) (v_bentWrong : Int32) (v_moreWorn : Int32) (v_wishedField : Int32) (v_isFound : Bool) (v_bestWrong : Int32) (v_bestWorn : Int32) (v_bestMany : Int32) (v_limit : List Int32) (v_shapeRows : List Int32) (v_shapeColumns : List Int32) (v_row : List Int32) (v_column : List Int32) (v_below : List Int32) (v_face : List Int32) (v_worn : List Int32) (v_lastBend : List Int32) (v_tape : List Int32) (v_text : List Int32) (v_names : List Int32) (v_bends : List Int32) (v_high : List Int32) (v_to : List Int32) (v_pileSize : List Int32) (v_way1 : List Int32) (v_bestWay : List Int32) (H : Heap) (locs : List Loc) (ls : Array Slot), k_66 x1 x2 x3 x4 x5 v_rowsOf v_columnsOf v_textMany v_base v_at v_ends v_fault v_opened v_bentMany v_bentWrong v_moreWorn v_wishedField v_isFound v_bestWrong v_bestWorn v_bestMany v_limit v_shapeRows v_shapeColumns v_row v_column v_below v_face v_worn v_lastBend v_tape v_text v_names v_bends v_high v_to v_pileSize v_way1 v_bestWay = some (w_base, w_at, w_ends, w_fault, w_opened, w_bentMany, w_bentWrong, w_moreWorn, w_isFound, w_bestWrong, w_bestWorn, w_bestMany, w_shapeRows, w_shapeColumns, w_row, w_column, w_below, w_face, w_worn, w_lastBend, w_names, w_bends, w_high, w_to, w_pileSize, w_way1, w_bestWay) → va_P D mm_cl (wd_X9 cI cL cS cH a v_keptMany v_done v_rowsOf v_columnsOf v_folded v_wronged v_tapeMany v_textMany v_base v_at v_ends v_fault v_opened v_bentMany v_bentWrong v_moreWorn v_planned v_allWrong v_allWorn v_z v_wishedField v_isFound v_bestWrong v_bestWorn v_bestMany v_soughtBy v_sought v_soughtAt v_foundMany v_foundOrder v_isKept v_imageRows v_imageColumns v_imageFolded v_imageWronged v_bodies v_ran v_ownKind v_ownNumber v_limit v_changeWas v_changeIs v_shapeRows v_shapeColumns v_row v_column v_below v_face v_worn v_lastBend v_tape v_text v_names v_bends v_high v_to v_pileSize v_planLine v_planWay v_way1 v_bestWay v_order1 v_placeIn v_bodyKind v_trace v_shelf v_many v_items v_carried) H → va_D A (wd_X9 cI cL cS cH a v_keptMany v_done v_rowsOf v_columnsOf v_folded v_wronged v_tapeMany v_textMany v_base v_at v_ends v_fault v_opened v_bentMany v_bentWrong v_moreWorn v_planned v_allWrong v_allWorn v_z v_wishedField v_isFound v_bestWrong v_bestWorn v_bestMany v_soughtBy v_sought v_soughtAt v_foundMany v_foundOrder v_isKept v_imageRows v_imageColumns v_imageFolded v_imageWronged v_bodies v_ran v_ownKind v_ownNumber v_limit v_changeWas v_changeIs v_shapeRows v_shapeColumns v_row v_column v_below v_face v_worn v_lastBend v_tape v_text v_names v_bends v_high v_to v_pileSize v_planLine v_planWay v_way1 v_bestWay v_order1 v_placeIn v_bodyKind v_trace v_shelf v_many v_items v_carried) → va_S A s.heap H locs → lv_has ls 7 [(0, .ref (a 0)), (1, .int x1), (2, .int x2), (3, .int x3), (4, .int x4), (5, .int x5)] → W p l e (mm_rr d) s m args below meth c H locs 0 0 (mm_Z below D A (wd_X9 cI cL cS cH a v_keptMany v_done v_rowsOf v_columnsOf v_folded v_wronged v_tapeMany v_textMany w_base w_at w_ends w_fault w_opened w_bentMany w_bentWrong w_moreWorn v_planned v_allWrong v_allWorn v_z v_wishedField w_isFound w_bestWrong w_bestWorn w_bestMany v_soughtBy v_sought v_soughtAt v_foundMany v_foundOrder v_isKept v_imageRows v_imageColumns v_imageFolded v_imageWronged v_bodies v_ran v_ownKind v_ownNumber v_limit v_changeWas v_changeIs w_shapeRows w_shapeColumns w_row w_column w_below w_face w_worn w_lastBend v_tape v_text w_names w_bends w_high w_to w_pileSize v_planLine v_planWay w_way1 w_bestWay v_order1 v_placeIn v_bodyKind v_trace v_shelf v_many v_items v_carried) none args s) (F0 m 66 ls [])) {k_76 : Int32 → Int32 → Int32 → Int32 → Int32 → Int32 → Int32 → Int32 → Int32 → Int32 → Int32 → Int32 → Int32 → Int32 → Int32 → Int32 → Int32 → Int32 → Bool → Int32 → Int32 → Int32 → List Int32 → List Int32 → List Int32 → List Int32 → List Int32 → List Int32 → List Int32 → List Int32 → List Int32 → List Int32 → List Int32 → List Int32 → List Int32 → List Int32 → List Int32 → List Int32 → List Int32 → List Int32 → Option (Int32 × Int32 × Int32 × Int32 × Int32 × Int32 × Int32 × Int32 × Bool × Int32 × Int32 × Int32 × List Int32 × List Int32 × List Int32 × List Int32 × List Int32 × List Int32 × List Int32 × List Int32 × List Int32 × List Int32 × List Int32 × List Int32 × List Int32 × List Int32 × List Int32)} (hk_76 : ∀ (x1 : Int32) (x2 : Int32) (x3 : Int32) (x4 : Int32) (x5 : Int32) (x6 : Int32) (v_rowsOf : Int32) (v_columnsOf : Int32) (v_textMany : Int32) (v_base : Int32) (v_at : Int32) (v_ends : Int32) (v_fault : Int32) (v_opened : Int32) (v_bentMany : Int32) (v_bentWrong : Int32) (v_moreWorn : Int32) (v_wishedField : Int32) (v_isFound : Bool) (v_bestWrong : Int32) (v_bestWorn : Int32) (v_bestMany : Int32) (v_limit : List Int32) (v_shapeRows : List Int32) (v_shapeColumns : List Int32) (v_row : List Int32) (v_column : List Int32) (v_below : List Int32) (v_face : List Int32) (v_worn : List Int32) (v_lastBend : List Int32) (v_tape : List Int32) (v_text : List Int32) (v_names : List Int32) (v_bends : List Int32) (v_high : List Int32) (v_to : List Int32) (v_pileSize : List Int32) (v_way1 : List Int32) (v_bestWay : List Int32) (H : Heap) (locs : List Loc) (ls : Array Slot), k_76 x1 x2 x3 x4 x5 x6 v_rowsOf v_columnsOf v_textMany v_base v_at v_ends v_fault v_opened v_bentMany v_bentWrong v_moreWorn v_wishedField v_isFound v_bestWrong v_bestWorn v_bestMany v_limit v_shapeRows v_shapeColumns v_row v_column v_below v_face v_worn v_lastBend v_tape v_text v_names v_bends v_high v_to v_pileSize v_way1 v_bestWay = some (w_base, w_at, w_ends, w_fault, w_opened, w_bentMany, w_bentWrong, w_moreWorn, w_isFound, w_bestWrong, w_bestWorn, w_bestMany, w_shapeRows, w_shapeColumns, w_row, w_column, w_below, w_face, w_worn, w_lastBend, w_names, w_bends, w_high, w_to, w_pileSize, w_way1, w_bestWay) → va_P D mm_cl (wd_X9 cI cL cS cH a v_keptMany v_done v_rowsOf v_columnsOf v_folded v_wronged v_tapeMany v_textMany v_base v_at v_ends v_fault v_opened v_bentMany v_bentWrong v_moreWorn v_planned v_allWrong v_allWorn v_z v_wishedField v_isFound v_bestWrong v_bestWorn v_bestMany v_soughtBy v_sought v_soughtAt v_foundMany v_foundOrder v_isKept v_imageRows v_imageColumns v_imageFolded v_imageWronged v_bodies v_ran v_ownKind v_ownNumber v_limit v_changeWas v_changeIs v_shapeRows v_shapeColumns v_row v_column v_below v_face v_worn v_lastBend v_tape v_text v_names v_bends v_high v_to v_pileSize v_planLine v_planWay v_way1 v_bestWay v_order1 v_placeIn v_bodyKind v_trace v_shelf v_many v_items v_carried) H → va_D A (wd_X9 cI cL cS cH a v_keptMany v_done v_rowsOf v_columnsOf v_folded v_wronged v_tapeMany v_textMany v_base v_at v_ends v_fault v_opened v_bentMany v_bentWrong v_moreWorn v_planned v_allWrong v_allWorn v_z v_wishedField v_isFound v_bestWrong v_bestWorn v_bestMany v_soughtBy v_sought v_soughtAt v_foundMany v_foundOrder v_isKept v_imageRows v_imageColumns v_imageFolded v_imageWronged v_bodies v_ran v_ownKind v_ownNumber v_limit v_changeWas v_changeIs v_shapeRows v_shapeColumns v_row v_column v_below v_face v_worn v_lastBend v_tape v_text v_names v_bends v_high v_to v_pileSize v_planLine v_planWay v_way1 v_bestWay v_order1 v_placeIn v_bodyKind v_trace v_shelf v_many v_items v_carried) → va_S A s.heap H locs → lv_has ls 7 [(0, .ref (a 0)), (1, .int x1), (2, .int x2), (3, .int x3), (4, .int x4), (5, .int x5), (6, .int x6)] → W p l e (mm_rr d) s m args below meth c H locs 0 0 (mm_Z below D A (wd_X9 cI cL cS cH a v_keptMany v_done v_rowsOf v_columnsOf v_folded v_wronged v_tapeMany v_textMany w_base w_at w_ends w_fault w_opened w_bentMany w_bentWrong w_moreWorn v_planned v_allWrong v_allWorn v_z v_wishedField w_isFound w_bestWrong w_bestWorn w_bestMany v_soughtBy v_sought v_soughtAt v_foundMany v_foundOrder v_isKept v_imageRows v_imageColumns v_imageFolded v_imageWronged v_bodies v_ran v_ownKind v_ownNumber v_limit v_changeWas v_changeIs w_shapeRows w_shapeColumns w_row w_column w_below w_face w_worn w_lastBend v_tape v_text w_names w_bends w_high w_to w_pileSize v_planLine v_planWay w_way1 w_bestWay v_order1 v_placeIn v_bodyKind v_trace v_shelf v_many v_items v_carried) none args s) (F0 m 76 ls [])) : ∀ (x1 : Int32) (x2 : Int32) (x3 : Int32) (x4 : Int32) (x5 : Int32) (x6 : Int32) (v_rowsOf : Int32) (v_columnsOf : Int32) (v_textMany : Int32) (v_base : Int32) (v_at : Int32) (v_ends : Int32) (v_fault : Int32) (v_opened : Int32) (v_bentMany : Int32) (v_bentWrong : Int32) (v_moreWorn : Int32) (v_wishedField : Int32) (v_isFound : Bool) (v_bestWrong : Int32) (v_bestWorn : Int32) (v_bestMany : Int32) (v_limit : List Int32) (v_shapeRows : List Int32) (v_shapeColumns : List Int32) (v_row : List Int32) (v_column : List Int32) (v_below : List Int32) (v_face : List Int32) (v_worn : List Int32) (v_lastBend : List Int32) (v_tape : List Int32) (v_text : List Int32) (v_names : List Int32) (v_bends : List Int32) (v_high : List Int32) (v_to : List Int32) (v_pileSize : List Int32) (v_way1 : List Int32) (v_bestWay : List Int32) (H : Heap) (locs : List Loc) (ls : Array Slot), fX9_goesDeeper_154 N go k_66 k_76 x1 x2 x3 x4 x5 x6 v_rowsOf v_columnsOf v_textMany v_base v_at v_ends v_fault v_opened v_bentMany v_bentWrong v_moreWorn v_wishedField v_isFound v_bestWrong v_bestWorn v_bestMany v_limit v_shapeRows v_shapeColumns v_row v_column v_below v_face v_worn v_lastBend v_tape v_text v_names v_bends v_high v_to v_pileSize v_way1 v_bestWay = some (w_base, w_at, w_ends, w_fault, w_opened, w_bentMany, w_bentWrong, w_moreWorn, w_isFound, w_bestWrong, w_bestWorn, w_bestMany, w_shapeRows, w_shapeColumns, w_row, w_column, w_below, w_face, w_worn, w_lastBend, w_names, w_bends, w_high, w_to, w_pileSize, w_way1, w_bestWay) → va_P D mm_cl (wd_X9 cI cL cS cH a v_keptMany v_done v_rowsOf v_columnsOf v_folded v_wronged v_tapeMany v_textMany v_base v_at v_ends v_fault v_opened v_bentMany v_bentWrong v_moreWorn v_planned v_allWrong v_allWorn v_z v_wishedField v_isFound v_bestWrong v_bestWorn v_bestMany v_soughtBy v_sought v_soughtAt v_foundMany v_foundOrder v_isKept v_imageRows v_imageColumns v_imageFolded v_imageWronged v_bodies v_ran v_ownKind v_ownNumber v_limit v_changeWas v_changeIs v_shapeRows v_shapeColumns v_row v_column v_below v_face v_worn v_lastBend v_tape v_text v_names v_bends v_high v_to v_pileSize v_planLine v_planWay v_way1 v_bestWay v_order1 v_placeIn v_bodyKind v_trace v_shelf v_many v_items v_carried) H → va_D A (wd_X9 cI cL cS cH a v_keptMany v_done v_rowsOf v_columnsOf v_folded v_wronged v_tapeMany v_textMany v_base v_at v_ends v_fault v_opened v_bentMany v_bentWrong v_moreWorn v_planned v_allWrong v_allWorn v_z v_wishedField v_isFound v_bestWrong v_bestWorn v_bestMany v_soughtBy v_sought v_soughtAt v_foundMany v_foundOrder v_isKept v_imageRows v_imageColumns v_imageFolded v_imageWronged v_bodies v_ran v_ownKind v_ownNumber v_limit v_changeWas v_changeIs v_shapeRows v_shapeColumns v_row v_column v_below v_face v_worn v_lastBend v_tape v_text v_names v_bends v_high v_to v_pileSize v_planLine v_planWay v_way1 v_bestWay v_order1 v_placeIn v_bodyKind v_trace v_shelf v_many v_items v_carried) → va_S A s.heap H locs → lv_has ls 7 [(0, .ref (a 0)), (1, .int x1), (2, .int x2), (3, .int x3), (4, .int x4), (5, .int x5), (6, .int x6)] → W p l e (mm_rr d) s m args below meth c H locs 0 0 (mm_Z below D A (wd_X9 cI cL cS cH a v_keptMany v_done v_rowsOf v_columnsOf v_folded v_wronged v_tapeMany v_textMany w_base w_at w_ends w_fault w_opened w_bentMany w_bentWrong w_moreWorn v_planned v_allWrong v_allWorn v_z v_wishedField w_isFound w_bestWrong w_bestWorn w_bestMany v_soughtBy v_sought v_soughtAt v_foundMany v_foundOrder v_isKept v_imageRows v_imageColumns v_imageFolded v_imageWronged v_bodies v_ran v_ownKind v_ownNumber v_limit v_changeWas v_changeIs w_shapeRows w_shapeColumns w_row w_column w_below w_face w_worn w_lastBend v_tape v_text w_names w_bends w_high w_to w_pileSize v_planLine v_planWay w_way1 w_bestWay v_order1 v_placeIn v_bodyKind v_trace v_shelf v_many v_items v_carried) none args s) (F0 m 154 ls []) := by
  obtain ⟨hx, hb, hml, hown, hts, hr, hlocks, hK, hSt⟩ := id C0
  intro x1 x2 x3 x4 x5 x6 v_rowsOf v_columnsOf v_textMany v_base v_at v_ends v_fault v_opened v_bentMany v_bentWrong v_moreWorn v_wishedField v_isFound v_bestWrong v_bestWorn v_bestMany v_limit v_shapeRows v_shapeColumns v_row v_column v_below v_face v_worn v_lastBend v_tape v_text v_names v_bends v_high v_to v_pileSize v_way1 v_bestWay H locs ls hf hP hD hS hl
  unfold fX9_goesDeeper_154 at hf
  obtain ⟨y_87, ey_87⟩ : ∃ z : Int32, z = x6 + (1 : Int32) := ⟨_, rfl⟩
  have hf := mm_nms hf ey_87
  refine lv_iinc (v := y_87) (lv' := [(6, .int y_87), (0, .ref (a 0)), (1, .int x1), (2, .int x2), (3, .int x3), (4, .int x4), (5, .int x5)]) hx hb dX9_goesDeeper_154 hl (k := 6) rfl (by rw [ey_87]; rfl) (by decide) rfl (fun ls hl => ?_)
  refine lv_goto (tgt := 76) hx hb dX9_goesDeeper_157 (by decide) ?_
  exact hk_76 _ _ _ _ _ _ _ _ _ _ _ _ _ _ _ _ _ _ _ _ _ _ _ _ _ _ _ _ _ _ _ _ _ _ _ _ _ _ _ _ H locs ls hf hP hD hS (lv_sub hl [1, 2, 3, 4, 5, 6, 0] rfl)

def fX9_goesDeeper_76 (N : Nat) (go : Int32 → Int32 → Int32 → Int32 → Int32 → Int32 → Int32 → Int32 → Int32 → Int32 → Int32 → Int32 → Int32 → Int32 → Int32 → Bool → Int32 → Int32 → Int32 → List Int32 → List Int32 → List Int32 → List Int32 → List Int32 → List Int32 → List Int32 → List Int32 → List Int32 → List Int32 → List Int32 → List Int32 → List Int32 → List Int32 → List Int32 → List Int32 → List Int32 → List Int32 → Option (Int32 × Int32 × Int32 × Int32 × Int32 × Int32 × Int32 × Int32 × Bool × Int32 × Int32 × Int32 × List Int32 × List Int32 × List Int32 × List Int32 × List Int32 × List Int32 × List Int32 × List Int32 × List Int32 × List Int32 × List Int32 × List Int32 × List Int32 × List Int32 × List Int32)) (k_66 : Int32 → Int32 → Int32 → Int32 → Int32 → Int32 → Int32 → Int32 → Int32 → Int32 → Int32 → Int32 → Int32 → Int32 → Int32 → Int32 → Int32 → Bool → Int32 → Int32 → Int32 → List Int32 → List Int32 → List Int32 → List Int32 → List Int32 → List Int32 → List Int32 → List Int32 → List Int32 → List Int32 → List Int32 → List Int32 → List Int32 → List Int32 → List Int32 → List Int32 → List Int32 → List Int32 → Option (Int32 × Int32 × Int32 × Int32 × Int32 × Int32 × Int32 × Int32 × Bool × Int32 × Int32 × Int32 × List Int32 × List Int32 × List Int32 × List Int32 × List Int32 × List Int32 × List Int32 × List Int32 × List Int32 × List Int32 × List Int32 × List Int32 × List Int32 × List Int32 × List Int32)) : Nat → Int32 → Int32 → Int32 → Int32 → Int32 → Int32 → Int32 → Int32 → Int32 → Int32 → Int32 → Int32 → Int32 → Int32 → Int32 → Int32 → Int32 → Int32 → Bool → Int32 → Int32 → Int32 → List Int32 → List Int32 → List Int32 → List Int32 → List Int32 → List Int32 → List Int32 → List Int32 → List Int32 → List Int32 → List Int32 → List Int32 → List Int32 → List Int32 → List Int32 → List Int32 → List Int32 → List Int32 → Option (Int32 × Int32 × Int32 × Int32 × Int32 × Int32 × Int32 × Int32 × Bool × Int32 × Int32 × Int32 × List Int32 × List Int32 × List Int32 × List Int32 × List Int32 × List Int32 × List Int32 × List Int32 × List Int32 × List Int32 × List Int32 × List Int32 × List Int32 × List Int32 × List Int32)
  | 0 => fun _ _ _ _ _ _ _ _ _ _ _ _ _ _ _ _ _ _ _ _ _ _ _ _ _ _ _ _ _ _ _ _ _ _ _ _ _ _ _ _ => none
  | n + 1 => fun x1 x2 x3 x4 x5 x6 v_rowsOf v_columnsOf v_textMany v_base v_at v_ends v_fault v_opened v_bentMany v_bentWrong v_moreWorn v_wishedField v_isFound v_bestWrong v_bestWorn v_bestMany v_limit v_shapeRows v_shapeColumns v_row v_column v_below v_face v_worn v_lastBend v_tape v_text v_names v_bends v_high v_to v_pileSize v_way1 v_bestWay =>
    if (8 : Int32) ≤ x6 then
    (mm_nm (x5 + (1 : Int32)) (fun (y_21 : Int32) =>
    k_66 x1 x2 x3 x4 y_21 v_rowsOf v_columnsOf v_textMany v_base v_at v_ends v_fault v_opened v_bentMany v_bentWrong v_moreWorn v_wishedField v_isFound v_bestWrong v_bestWorn v_bestMany v_limit v_shapeRows v_shapeColumns v_row v_column v_below v_face v_worn v_lastBend v_tape v_text v_names v_bends v_high v_to v_pileSize v_way1 v_bestWay))
    else (mm_bd1 (fX9_isLine N x4 x5 x6 v_shapeRows v_shapeColumns) (fun (r_22 : Bool) =>
    if r_22 = false then
    (fX9_goesDeeper_154 N go k_66 (fX9_goesDeeper_76 N go k_66 n) x1 x2 x3 x4 x5 x6 v_rowsOf v_columnsOf v_textMany v_base v_at v_ends v_fault v_opened v_bentMany v_bentWrong v_moreWorn v_wishedField v_isFound v_bestWrong v_bestWorn v_bestMany v_limit v_shapeRows v_shapeColumns v_row v_column v_below v_face v_worn v_lastBend v_tape v_text v_names v_bends v_high v_to v_pileSize v_way1 v_bestWay)
    else (mm_bd8 (fX9_copies N x4 (x4 + (1 : Int32)) v_shapeRows v_shapeColumns v_row v_column v_below v_face v_worn v_lastBend) (fun (w_25 : List Int32) (w_26 : List Int32) (w_27 : List Int32) (w_28 : List Int32) (w_29 : List Int32) (w_30 : List Int32) (w_31 : List Int32) (w_32 : List Int32) =>
    mm_bd21 (fX9_foldsOn N (x4 + (1 : Int32)) x5 x6 v_rowsOf v_columnsOf v_textMany v_base v_at v_ends v_fault v_opened v_bentMany v_bentWrong v_moreWorn v_limit w_25 w_26 w_27 w_28 w_29 w_30 w_31 w_32 v_tape v_text v_names v_bends v_high v_to v_pileSize) (fun (w_34 : Int32) (w_35 : Int32) (w_36 : Int32) (w_37 : Int32) (w_38 : Int32) (w_39 : Int32) (w_40 : Int32) (w_41 : Int32) (w_42 : List Int32) (w_43 : List Int32) (w_44 : List Int32) (w_45 : List Int32) (w_46 : List Int32) (w_47 : List Int32) (w_48 : List Int32) (w_49 : List Int32) (w_50 : List Int32) (w_51 : List Int32) (w_52 : List Int32) (w_53 : List Int32) (w_54 : List Int32) =>
    mm_nm ((((10 : Int32) * x5) + x6)) (fun (y_56 : Int32) =>
    mm_ck (mm_inb x1 v_way1.length) (mm_nm (mm_is v_way1 x1 y_56) (fun (l_58 : List Int32) =>
    mm_bd27 (go (x1 + (1 : Int32)) (x2 + w_40) (x3 + w_41) v_rowsOf v_columnsOf v_textMany w_34 w_35 w_36 w_37 w_38 w_39 w_40 w_41 v_wishedField v_isFound v_bestWrong v_bestWorn v_bestMany v_limit w_42 w_43 w_44 w_45 w_46 w_47 w_48 w_49 v_tape v_text w_50 w_51 w_52 w_53 w_54 l_58 v_bestWay) (fun (w_59 : Int32) (w_60 : Int32) (w_61 : Int32) (w_62 : Int32) (w_63 : Int32) (w_64 : Int32) (w_65 : Int32) (w_66 : Int32) (w_67 : Bool) (w_68 : Int32) (w_69 : Int32) (w_70 : Int32) (w_71 : List Int32) (w_72 : List Int32) (w_73 : List Int32) (w_74 : List Int32) (w_75 : List Int32) (w_76 : List Int32) (w_77 : List Int32) (w_78 : List Int32) (w_79 : List Int32) (w_80 : List Int32) (w_81 : List Int32) (w_82 : List Int32) (w_83 : List Int32) (w_84 : List Int32) (w_85 : List Int32) =>
    fX9_goesDeeper_154 N go k_66 (fX9_goesDeeper_76 N go k_66 n) x1 x2 x3 x4 x5 x6 v_rowsOf v_columnsOf v_textMany w_59 w_60 w_61 w_62 w_63 w_64 w_65 w_66 v_wishedField w_67 w_68 w_69 w_70 v_limit w_71 w_72 w_73 w_74 w_75 w_76 w_77 w_78 v_tape v_text w_79 w_80 w_81 w_82 w_83 w_84 w_85)))))))))

set_option maxHeartbeats 4000000 in
set_option maxRecDepth 100000 in
theorem tX9_goesDeeper_76 {p : Program} {l : Launch} {e : Env} {s : State} {m : MethodId} {args : Array Value} {below : List Frame} {meth : Method} {c : Code} {D : va_G} {cI cL cS cH : ClassId} {A : Nat → Prop} {d : Nat} {a : Nat → Nat} {go : Int32 → Int32 → Int32 → Int32 → Int32 → Int32 → Int32 → Int32 → Int32 → Int32 → Int32 → Int32 → Int32 → Int32 → Int32 → Bool → Int32 → Int32 → Int32 → List Int32 → List Int32 → List Int32 → List Int32 → List Int32 → List Int32 → List Int32 → List Int32 → List Int32 → List Int32 → List Int32 → List Int32 → List Int32 → List Int32 → List Int32 → List Int32 → List Int32 → List Int32 → Option (Int32 × Int32 × Int32 × Int32 × Int32 × Int32 × Int32 × Int32 × Bool × Int32 × Int32 × Int32 × List Int32 × List Int32 × List Int32 × List Int32 × List Int32 × List Int32 × List Int32 × List Int32 × List Int32 × List Int32 × List Int32 × List Int32 × List Int32 × List Int32 × List Int32)} {dgo : Nat} (hgo : ∀ (a : Nat → Nat) (x1 : Int32) (x2 : Int32) (x3 : Int32) (v_keptMany : Int32) (v_done : Int32) (v_rowsOf : Int32) (v_columnsOf : Int32) (v_folded : Int32) (v_wronged : Int32) (v_tapeMany : Int32) (v_textMany : Int32) (v_base : Int32) (v_at : Int32) (v_ends : Int32) (v_fault : Int32) (v_opened : Int32) (v_bentMany : Int32) (v_bentWrong : Int32) (v_moreWorn : Int32) (v_planned : Int32) (v_allWrong : Int32) (v_allWorn : Int32) (v_z : Int32) (v_wishedField : Int32) (v_isFound : Bool) (v_bestWrong : Int32) (v_bestWorn : Int32) (v_bestMany : Int32) (v_soughtBy : Int32) (v_sought : Int32) (v_soughtAt : Int32) (v_foundMany : Int32) (v_foundOrder : Int32) (v_isKept : Bool) (v_imageRows : Int32) (v_imageColumns : Int32) (v_imageFolded : Int32) (v_imageWronged : Int32) (v_bodies : Int32) (v_ran : Int32) (v_ownKind : Int32) (v_ownNumber : Int32) (v_limit : List Int32) (v_changeWas : List Int32) (v_changeIs : List Int32) (v_shapeRows : List Int32) (v_shapeColumns : List Int32) (v_row : List Int32) (v_column : List Int32) (v_below : List Int32) (v_face : List Int32) (v_worn : List Int32) (v_lastBend : List Int32) (v_tape : List Int32) (v_text : List Int32) (v_names : List Int32) (v_bends : List Int32) (v_high : List Int32) (v_to : List Int32) (v_pileSize : List Int32) (v_planLine : List Int32) (v_planWay : List Int32) (v_way1 : List Int32) (v_bestWay : List Int32) (v_order1 : List Int32) (v_placeIn : List Int32) (v_bodyKind : List Int32) (v_trace : List Int32) (v_shelf : List Int32) (v_many : List Int32) (v_items : List Int64) (v_carried : List Int64) (w_base : Int32) (w_at : Int32) (w_ends : Int32) (w_fault : Int32) (w_opened : Int32) (w_bentMany : Int32) (w_bentWrong : Int32) (w_moreWorn : Int32) (w_isFound : Bool) (w_bestWrong : Int32) (w_bestWorn : Int32) (w_bestMany : Int32) (w_shapeRows : List Int32) (w_shapeColumns : List Int32) (w_row : List Int32) (w_column : List Int32) (w_below : List Int32) (w_face : List Int32) (w_worn : List Int32) (w_lastBend : List Int32) (w_names : List Int32) (w_bends : List Int32) (w_high : List Int32) (w_to : List Int32) (w_pileSize : List Int32) (w_way1 : List Int32) (w_bestWay : List Int32), go x1 x2 x3 v_rowsOf v_columnsOf v_textMany v_base v_at v_ends v_fault v_opened v_bentMany v_bentWrong v_moreWorn v_wishedField v_isFound v_bestWrong v_bestWorn v_bestMany v_limit v_shapeRows v_shapeColumns v_row v_column v_below v_face v_worn v_lastBend v_tape v_text v_names v_bends v_high v_to v_pileSize v_way1 v_bestWay = some (w_base, w_at, w_ends, w_fault, w_opened, w_bentMany, w_bentWrong, w_moreWorn, w_isFound, w_bestWrong, w_bestWorn, w_bestMany, w_shapeRows, w_shapeColumns, w_row, w_column, w_below, w_face, w_worn, w_lastBend, w_names, w_bends, w_high, w_to, w_pileSize, w_way1, w_bestWay) → mm_Ct l yX9_goesDeeper cX9_goesDeeper 7 none dgo D (mm_T cI cL cS cH) [.ref (a 0), .int x1, .int x2, .int x3] (wd_X9 cI cL cS cH a v_keptMany v_done v_rowsOf v_columnsOf v_folded v_wronged v_tapeMany v_textMany v_base v_at v_ends v_fault v_opened v_bentMany v_bentWrong v_moreWorn v_planned v_allWrong v_allWorn v_z v_wishedField v_isFound v_bestWrong v_bestWorn v_bestMany v_soughtBy v_sought v_soughtAt v_foundMany v_foundOrder v_isKept v_imageRows v_imageColumns v_imageFolded v_imageWronged v_bodies v_ran v_ownKind v_ownNumber v_limit v_changeWas v_changeIs v_shapeRows v_shapeColumns v_row v_column v_below v_face v_worn v_lastBend v_tape v_text v_names v_bends v_high v_to v_pileSize v_planLine v_planWay v_way1 v_bestWay v_order1 v_placeIn v_bodyKind v_trace v_shelf v_many v_items v_carried) (wd_X9 cI cL cS cH a v_keptMany v_done v_rowsOf v_columnsOf v_folded v_wronged v_tapeMany v_textMany w_base w_at w_ends w_fault w_opened w_bentMany w_bentWrong w_moreWorn v_planned v_allWrong v_allWorn v_z v_wishedField w_isFound w_bestWrong w_bestWorn w_bestMany v_soughtBy v_sought v_soughtAt v_foundMany v_foundOrder v_isKept v_imageRows v_imageColumns v_imageFolded v_imageWronged v_bodies v_ran v_ownKind v_ownNumber v_limit v_changeWas v_changeIs w_shapeRows w_shapeColumns w_row w_column w_below w_face w_worn w_lastBend v_tape v_text w_names w_bends w_high w_to w_pileSize v_planLine v_planWay w_way1 w_bestWay v_order1 v_placeIn v_bodyKind v_trace v_shelf v_many v_items v_carried) none) (hE : 59 ≤ dgo) (hd : dgo + 1 ≤ d) (C0 : mm_Cx p s m args meth c RX9 cX9_goesDeeper 7 none D (mm_T cI cL cS cH) A) (hA : ∀ q, s.heap.size ≤ q → A q) {v_keptMany : Int32} {v_done : Int32} {v_folded : Int32} {v_wronged : Int32} {v_tapeMany : Int32} {v_planned : Int32} {v_allWrong : Int32} {v_allWorn : Int32} {v_z : Int32} {v_soughtBy : Int32} {v_sought : Int32} {v_soughtAt : Int32} {v_foundMany : Int32} {v_foundOrder : Int32} {v_isKept : Bool} {v_imageRows : Int32} {v_imageColumns : Int32} {v_imageFolded : Int32} {v_imageWronged : Int32} {v_bodies : Int32} {v_ran : Int32} {v_ownKind : Int32} {v_ownNumber : Int32} {v_changeWas : List Int32} {v_changeIs : List Int32} {v_planLine : List Int32} {v_planWay : List Int32} {v_order1 : List Int32} {v_placeIn : List Int32} {v_bodyKind : List Int32} {v_trace : List Int32} {v_shelf : List Int32} {v_many : List Int32} {v_items : List Int64} {v_carried : List Int64} {w_base : Int32} {w_at : Int32} {w_ends : Int32} {w_fault : Int32} {w_opened : Int32} {w_bentMany : Int32} {w_bentWrong : Int32} {w_moreWorn : Int32} {w_isFound : Bool} {w_bestWrong : Int32} {w_bestWorn : Int32} {w_bestMany : Int32} {w_shapeRows : List Int32} {w_shapeColumns : List Int32} {w_row : List Int32} {w_column : List Int32} {w_below : List Int32} {w_face : List Int32} {w_worn : List Int32} {w_lastBend : List Int32} {w_names : List Int32} {w_bends : List Int32} {w_high : List Int32} {w_to : List Int32} {w_pileSize : List Int32} {w_way1 : List Int32} {w_bestWay : List Int32} (N : Nat) {k_66 : Int32 → Int32 → Int32 → Int32 → Int32 → Int32 → Int32 → Int32 → Int32 → Int32 → Int32 → Int32 → Int32 → Int32 → Int32 → Int32 → Int32 → Bool → Int32 → Int32 → Int32 → List Int32 → List Int32 → List Int32 → List Int32 → List Int32 → List Int32 → List Int32 → List Int32 → List Int32 → List Int32 → List Int32 → List Int32 → List Int32 → List Int32 → List Int32 → List Int32 → List Int32 → List Int32 → Option (Int32 × Int32 × Int32 × Int32 × Int32 × Int32 × Int32 × Int32 × Bool × Int32 × Int32 × Int32 × List Int32 × List Int32 × List Int32 × List Int32 × List Int32 × List Int32 × List Int32 × List Int32 × List Int32 × List Int32 × List Int32 × List Int32 × List Int32 × List Int32 × List Int32)} (hk_66 : ∀ (x1 : Int32) (x2 : Int32) (x3 : Int32) (x4 : Int32) (x5 : Int32) (v_rowsOf : Int32) (v_columnsOf : Int32) (v_textMany : Int32) (v_base : Int32) (v_at : Int32) (v_ends : Int32) (v_fault : Int32) (v_opened : Int32) (v_bentMany : Int32) (v_bentWrong : Int32) (v_moreWorn : Int32) (v_wishedField : Int32) (v_isFound : Bool) (v_bestWrong : Int32) (v_bestWorn : Int32) (v_bestMany : Int32) (v_limit : List Int32) (v_shapeRows : List Int32) (v_shapeColumns : List Int32) (v_row : List Int32) (v_column : List Int32) (v_below : List Int32) (v_face : List Int32) (v_worn : List Int32) (v_lastBend : List Int32) (v_tape : List Int32) (v_text : List Int32) (v_names : List Int32) (v_bends : List Int32) (v_high : List Int32) (v_to : List Int32) (v_pileSize : List Int32) (v_way1 : List Int32) (v_bestWay : List Int32) (H : Heap) (locs : List Loc) (ls : Array Slot), k_66 x1 x2 x3 x4 x5 v_rowsOf v_columnsOf v_textMany v_base v_at v_ends v_fault v_opened v_bentMany v_bentWrong v_moreWorn v_wishedField v_isFound v_bestWrong v_bestWorn v_bestMany v_limit v_shapeRows v_shapeColumns v_row v_column v_below v_face v_worn v_lastBend v_tape v_text v_names v_bends v_high v_to v_pileSize v_way1 v_bestWay = some (w_base, w_at, w_ends, w_fault, w_opened, w_bentMany, w_bentWrong, w_moreWorn, w_isFound, w_bestWrong, w_bestWorn, w_bestMany, w_shapeRows, w_shapeColumns, w_row, w_column, w_below, w_face, w_worn, w_lastBend, w_names, w_bends, w_high, w_to, w_pileSize, w_way1, w_bestWay) → va_P D mm_cl (wd_X9 cI cL cS cH a v_keptMany v_done v_rowsOf v_columnsOf v_folded v_wronged v_tapeMany v_textMany v_base v_at v_ends v_fault v_opened v_bentMany v_bentWrong v_moreWorn v_planned v_allWrong v_allWorn v_z v_wishedField v_isFound v_bestWrong v_bestWorn v_bestMany v_soughtBy v_sought v_soughtAt v_foundMany v_foundOrder v_isKept v_imageRows v_imageColumns v_imageFolded v_imageWronged v_bodies v_ran v_ownKind v_ownNumber v_limit v_changeWas v_changeIs v_shapeRows v_shapeColumns v_row v_column v_below v_face v_worn v_lastBend v_tape v_text v_names v_bends v_high v_to v_pileSize v_planLine v_planWay v_way1 v_bestWay v_order1 v_placeIn v_bodyKind v_trace v_shelf v_many v_items v_carried) H → va_D A (wd_X9 cI cL cS cH a v_keptMany v_done v_rowsOf v_columnsOf v_folded v_wronged v_tapeMany v_textMany v_base v_at v_ends v_fault v_opened v_bentMany v_bentWrong v_moreWorn v_planned v_allWrong v_allWorn v_z v_wishedField v_isFound v_bestWrong v_bestWorn v_bestMany v_soughtBy v_sought v_soughtAt v_foundMany v_foundOrder v_isKept v_imageRows v_imageColumns v_imageFolded v_imageWronged v_bodies v_ran v_ownKind v_ownNumber v_limit v_changeWas v_changeIs v_shapeRows v_shapeColumns v_row v_column v_below v_face v_worn v_lastBend v_tape v_text v_names v_bends v_high v_to v_pileSize v_planLine v_planWay v_way1 v_bestWay v_order1 v_placeIn v_bodyKind v_trace v_shelf v_many v_items v_carried) → va_S A s.heap H locs → lv_has ls 7 [(0, .ref (a 0)), (1, .int x1), (2, .int x2), (3, .int x3), (4, .int x4), (5, .int x5)] → W p l e (mm_rr d) s m args below meth c H locs 0 0 (mm_Z below D A (wd_X9 cI cL cS cH a v_keptMany v_done v_rowsOf v_columnsOf v_folded v_wronged v_tapeMany v_textMany w_base w_at w_ends w_fault w_opened w_bentMany w_bentWrong w_moreWorn v_planned v_allWrong v_allWorn v_z v_wishedField w_isFound w_bestWrong w_bestWorn w_bestMany v_soughtBy v_sought v_soughtAt v_foundMany v_foundOrder v_isKept v_imageRows v_imageColumns v_imageFolded v_imageWronged v_bodies v_ran v_ownKind v_ownNumber v_limit v_changeWas v_changeIs w_shapeRows w_shapeColumns w_row w_column w_below w_face w_worn w_lastBend v_tape v_text w_names w_bends w_high w_to w_pileSize v_planLine v_planWay w_way1 w_bestWay v_order1 v_placeIn v_bodyKind v_trace v_shelf v_many v_items v_carried) none args s) (F0 m 66 ls [])) : ∀ (n : Nat), ∀ (x1 : Int32) (x2 : Int32) (x3 : Int32) (x4 : Int32) (x5 : Int32) (x6 : Int32) (v_rowsOf : Int32) (v_columnsOf : Int32) (v_textMany : Int32) (v_base : Int32) (v_at : Int32) (v_ends : Int32) (v_fault : Int32) (v_opened : Int32) (v_bentMany : Int32) (v_bentWrong : Int32) (v_moreWorn : Int32) (v_wishedField : Int32) (v_isFound : Bool) (v_bestWrong : Int32) (v_bestWorn : Int32) (v_bestMany : Int32) (v_limit : List Int32) (v_shapeRows : List Int32) (v_shapeColumns : List Int32) (v_row : List Int32) (v_column : List Int32) (v_below : List Int32) (v_face : List Int32) (v_worn : List Int32) (v_lastBend : List Int32) (v_tape : List Int32) (v_text : List Int32) (v_names : List Int32) (v_bends : List Int32) (v_high : List Int32) (v_to : List Int32) (v_pileSize : List Int32) (v_way1 : List Int32) (v_bestWay : List Int32) (H : Heap) (locs : List Loc) (ls : Array Slot), fX9_goesDeeper_76 N go k_66 n x1 x2 x3 x4 x5 x6 v_rowsOf v_columnsOf v_textMany v_base v_at v_ends v_fault v_opened v_bentMany v_bentWrong v_moreWorn v_wishedField v_isFound v_bestWrong v_bestWorn v_bestMany v_limit v_shapeRows v_shapeColumns v_row v_column v_below v_face v_worn v_lastBend v_tape v_text v_names v_bends v_high v_to v_pileSize v_way1 v_bestWay = some (w_base, w_at, w_ends, w_fault, w_opened, w_bentMany, w_bentWrong, w_moreWorn, w_isFound, w_bestWrong, w_bestWorn, w_bestMany, w_shapeRows, w_shapeColumns, w_row, w_column, w_below, w_face, w_worn, w_lastBend, w_names, w_bends, w_high, w_to, w_pileSize, w_way1, w_bestWay) → va_P D mm_cl (wd_X9 cI cL cS cH a v_keptMany v_done v_rowsOf v_columnsOf v_folded v_wronged v_tapeMany v_textMany v_base v_at v_ends v_fault v_opened v_bentMany v_bentWrong v_moreWorn v_planned v_allWrong v_allWorn v_z v_wishedField v_isFound v_bestWrong v_bestWorn v_bestMany v_soughtBy v_sought v_soughtAt v_foundMany v_foundOrder v_isKept v_imageRows v_imageColumns v_imageFolded v_imageWronged v_bodies v_ran v_ownKind v_ownNumber v_limit v_changeWas v_changeIs v_shapeRows v_shapeColumns v_row v_column v_below v_face v_worn v_lastBend v_tape v_text v_names v_bends v_high v_to v_pileSize v_planLine v_planWay v_way1 v_bestWay v_order1 v_placeIn v_bodyKind v_trace v_shelf v_many v_items v_carried) H → va_D A (wd_X9 cI cL cS cH a v_keptMany v_done v_rowsOf v_columnsOf v_folded v_wronged v_tapeMany v_textMany v_base v_at v_ends v_fault v_opened v_bentMany v_bentWrong v_moreWorn v_planned v_allWrong v_allWorn v_z v_wishedField v_isFound v_bestWrong v_bestWorn v_bestMany v_soughtBy v_sought v_soughtAt v_foundMany v_foundOrder v_isKept v_imageRows v_imageColumns v_imageFolded v_imageWronged v_bodies v_ran v_ownKind v_ownNumber v_limit v_changeWas v_changeIs v_shapeRows v_shapeColumns v_row v_column v_below v_face v_worn v_lastBend v_tape v_text v_names v_bends v_high v_to v_pileSize v_planLine v_planWay v_way1 v_bestWay v_order1 v_placeIn v_bodyKind v_trace v_shelf v_many v_items v_carried) → va_S A s.heap H locs → lv_has ls 7 [(0, .ref (a 0)), (1, .int x1), (2, .int x2), (3, .int x3), (4, .int x4), (5, .int x5), (6, .int x6)] → W p l e (mm_rr d) s m args below meth c H locs 0 0 (mm_Z below D A (wd_X9 cI cL cS cH a v_keptMany v_done v_rowsOf v_columnsOf v_folded v_wronged v_tapeMany v_textMany w_base w_at w_ends w_fault w_opened w_bentMany w_bentWrong w_moreWorn v_planned v_allWrong v_allWorn v_z v_wishedField w_isFound w_bestWrong w_bestWorn w_bestMany v_soughtBy v_sought v_soughtAt v_foundMany v_foundOrder v_isKept v_imageRows v_imageColumns v_imageFolded v_imageWronged v_bodies v_ran v_ownKind v_ownNumber v_limit v_changeWas v_changeIs w_shapeRows w_shapeColumns w_row w_column w_below w_face w_worn w_lastBend v_tape v_text w_names w_bends w_high w_to w_pileSize v_planLine v_planWay w_way1 w_bestWay v_order1 v_placeIn v_bodyKind v_trace v_shelf v_many v_items v_carried) none args s) (F0 m 76 ls []) := by
  obtain ⟨hx, hb, hml, hown, hts, hr, hlocks, hK, hSt⟩ := id C0
  intro n
  induction n with
  | zero =>
    intro x1 x2 x3 x4 x5 x6 v_rowsOf v_columnsOf v_textMany v_base v_at v_ends v_fault v_opened v_bentMany v_bentWrong v_moreWorn v_wishedField v_isFound v_bestWrong v_bestWorn v_bestMany v_limit v_shapeRows v_shapeColumns v_row v_column v_below v_face v_worn v_lastBend v_tape v_text v_names v_bends v_high v_to v_pileSize v_way1 v_bestWay H locs ls hf
    cases (show none = some _ from hf)
  | succ n ih =>
    intro x1 x2 x3 x4 x5 x6 v_rowsOf v_columnsOf v_textMany v_base v_at v_ends v_fault v_opened v_bentMany v_bentWrong v_moreWorn v_wishedField v_isFound v_bestWrong v_bestWorn v_bestMany v_limit v_shapeRows v_shapeColumns v_row v_column v_below v_face v_worn v_lastBend v_tape v_text v_names v_bends v_high v_to v_pileSize v_way1 v_bestWay H locs ls hf hP hD hS hl
    unfold fX9_goesDeeper_76 at hf
    refine lv_iload hx hb dX9_goesDeeper_76 (lv_at hl 6 rfl) ?_
    refine lv_bipush (v := 8) hx hb dX9_goesDeeper_78 (by decide) ?_
    refine lv_icmp_ge (tgt := 160) hx hb dX9_goesDeeper_80 (by decide) (fun c_20 => ?_) (fun c_20 => ?_)
    · have hf := mm_ip hf c_20
      obtain ⟨y_21, ey_21⟩ : ∃ z : Int32, z = x5 + (1 : Int32) := ⟨_, rfl⟩
      have hf := mm_nms hf ey_21
      refine lv_iinc (v := y_21) (lv' := [(5, .int y_21), (0, .ref (a 0)), (1, .int x1), (2, .int x2), (3, .int x3), (4, .int x4), (6, .int x6)]) hx hb dX9_goesDeeper_160 hl (k := 5) rfl (by rw [ey_21]; rfl) (by decide) rfl (fun ls hl => ?_)
      refine lv_goto (tgt := 66) hx hb dX9_goesDeeper_163 (by decide) ?_
      exact hk_66 _ _ _ _ _ _ _ _ _ _ _ _ _ _ _ _ _ _ _ _ _ _ _ _ _ _ _ _ _ _ _ _ _ _ _ _ _ _ _ H locs ls hf hP hD hS (lv_sub hl [1, 2, 3, 4, 5, 0] rfl)
    · have hf := mm_in hf c_20
      refine lv_aload_n hx hb dX9_goesDeeper_83 rfl (lv_at hl 0 rfl) ?_
      refine lv_iload hx hb dX9_goesDeeper_84 (lv_at hl 4 rfl) ?_
      refine lv_iload hx hb dX9_goesDeeper_86 (lv_at hl 5 rfl) ?_
      refine lv_iload hx hb dX9_goesDeeper_88 (lv_at hl 6 rfl) ?_
      obtain ⟨r_22, hc_23, hf⟩ := mm_bd1s hf
      refine mm_callVF (q0 := 0) (ci := 9) (rest := []) C0 lk_X9_240 (ctX9_isLine (a := a) (d := d - 1) (by omega) hc_23) (by omega) rfl hl.1 rfl (mm_cat rfl) dX9_goesDeeper_90 hP hD hA hS rfl rfl (fun H locs hP hD hS => ?_)
      refine W.eq (g2 := F0 m 93 ls [.int (mm_b r_22)]) rfl ?_
      refine lv_if_ne (tgt := 99) hx hb dX9_goesDeeper_93 (by decide) (fun c_24 => ?_) (fun c_24 => ?_)
      · have hf := mm_in hf (mm_b1 c_24)
        refine lv_aload_n hx hb dX9_goesDeeper_99 rfl (lv_at hl 0 rfl) ?_
        refine lv_iload hx hb dX9_goesDeeper_100 (lv_at hl 4 rfl) ?_
        refine lv_iload hx hb dX9_goesDeeper_102 (lv_at hl 4 rfl) ?_
        refine lv_iconst (v := 1) hx hb dX9_goesDeeper_104 (by decide) ?_
        refine lv_iadd hx hb dX9_goesDeeper_105 ?_
        refine mm_ct8 hf (fun w_25 w_26 w_27 w_28 w_29 w_30 w_31 w_32 hc_33 hf => ?_)
        refine mm_callVF (q0 := 0) (ci := 9) (rest := []) C0 lk_X9_326 (ctX9_copies (a := a) (d := d - 1) (by omega) hc_33) (by omega) rfl hl.1 rfl (mm_cat rfl) dX9_goesDeeper_106 hP hD hA hS rfl rfl (fun H locs hP hD hS => ?_)
        refine W.eq (g2 := F0 m 109 ls []) rfl ?_
        refine lv_aload_n hx hb dX9_goesDeeper_109 rfl (lv_at hl 0 rfl) ?_
        refine lv_iload hx hb dX9_goesDeeper_110 (lv_at hl 4 rfl) ?_
        refine lv_iconst (v := 1) hx hb dX9_goesDeeper_112 (by decide) ?_
        refine lv_iadd hx hb dX9_goesDeeper_113 ?_
        refine lv_iload hx hb dX9_goesDeeper_114 (lv_at hl 5 rfl) ?_
        refine lv_iload hx hb dX9_goesDeeper_116 (lv_at hl 6 rfl) ?_
        refine mm_ct21 hf (fun w_34 w_35 w_36 w_37 w_38 w_39 w_40 w_41 w_42 w_43 w_44 w_45 w_46 w_47 w_48 w_49 w_50 w_51 w_52 w_53 w_54 hc_55 hf => ?_)
        refine mm_callVF (q0 := 0) (ci := 9) (rest := []) C0 lk_X9_244 (ctX9_foldsOn (a := a) (d := d - 1) (by omega) hc_55) (by omega) rfl hl.1 rfl (mm_cat rfl) dX9_goesDeeper_118 hP hD hA hS rfl rfl (fun H locs hP hD hS => ?_)
        refine W.eq (g2 := F0 m 121 ls []) rfl ?_
        refine lv_aload_n hx hb dX9_goesDeeper_121 rfl (lv_at hl 0 rfl) ?_
        refine mm_get C0 hP iw_X9 0 rfl rfl 41 (by decide) fl_X9_70 rfl dX9_goesDeeper_122 ?_
        refine lv_iload_n hx hb dX9_goesDeeper_125 rfl (lv_at hl 1 rfl) ?_
        refine lv_bipush (v := 10) hx hb dX9_goesDeeper_126 (by decide) ?_
        refine lv_iload hx hb dX9_goesDeeper_128 (lv_at hl 5 rfl) ?_
        refine lv_imul hx hb dX9_goesDeeper_130 ?_
        refine lv_iload hx hb dX9_goesDeeper_131 (lv_at hl 6 rfl) ?_
        refine lv_iadd hx hb dX9_goesDeeper_133 ?_
        refine lv_topi (fun y_56 ey_56 => ?_)
        have hf := mm_nms hf ey_56
        obtain ⟨h_57, hf⟩ := mm_cks hf
        refine mm_iast C0 hP hD hS 21 rfl h_57 dX9_goesDeeper_134 (w2 := (wd_X9 cI cL cS cH a v_keptMany v_done v_rowsOf v_columnsOf v_folded v_wronged v_tapeMany v_textMany w_34 w_35 w_36 w_37 w_38 w_39 w_40 w_41 v_planned v_allWrong v_allWorn v_z v_wishedField v_isFound v_bestWrong v_bestWorn v_bestMany v_soughtBy v_sought v_soughtAt v_foundMany v_foundOrder v_isKept v_imageRows v_imageColumns v_imageFolded v_imageWronged v_bodies v_ran v_ownKind v_ownNumber v_limit v_changeWas v_changeIs w_42 w_43 w_44 w_45 w_46 w_47 w_48 w_49 v_tape v_text w_50 w_51 w_52 w_53 w_54 v_planLine v_planWay (mm_is v_way1 x1 y_56) v_bestWay v_order1 v_placeIn v_bodyKind v_trace v_shelf v_many v_items v_carried)) rfl (fun H locs hP hD hS => ?_)
        generalize el_58 : (mm_is v_way1 x1 y_56) = l_58 at hP hD
        have hf := mm_nms hf el_58.symm
        refine lv_aload_n hx hb dX9_goesDeeper_135 rfl (lv_at hl 0 rfl) ?_
        refine lv_iload_n hx hb dX9_goesDeeper_136 rfl (lv_at hl 1 rfl) ?_
        refine lv_iconst (v := 1) hx hb dX9_goesDeeper_137 (by decide) ?_
        refine lv_iadd hx hb dX9_goesDeeper_138 ?_
        refine lv_iload_n hx hb dX9_goesDeeper_139 rfl (lv_at hl 2 rfl) ?_
        refine lv_aload_n hx hb dX9_goesDeeper_140 rfl (lv_at hl 0 rfl) ?_
        refine mm_get C0 hP iw_X9 0 rfl rfl 29 (by decide) fl_X9_211 rfl dX9_goesDeeper_141 ?_
        refine lv_iadd hx hb dX9_goesDeeper_144 ?_
        refine lv_iload_n hx hb dX9_goesDeeper_145 rfl (lv_at hl 3 rfl) ?_
        refine lv_aload_n hx hb dX9_goesDeeper_146 rfl (lv_at hl 0 rfl) ?_
        refine mm_get C0 hP iw_X9 0 rfl rfl 30 (by decide) fl_X9_214 rfl dX9_goesDeeper_147 ?_
        refine lv_iadd hx hb dX9_goesDeeper_150 ?_
        refine mm_ct27 hf (fun w_59 w_60 w_61 w_62 w_63 w_64 w_65 w_66 w_67 w_68 w_69 w_70 w_71 w_72 w_73 w_74 w_75 w_76 w_77 w_78 w_79 w_80 w_81 w_82 w_83 w_84 w_85 hc_86 hf => ?_)
        refine mm_callVF (q0 := 0) (ci := 9) (rest := []) C0 lk_X9_329 (hgo a _ _ _ _ _ _ _ _ _ _ _ _ _ _ _ _ _ _ _ _ _ _ _ _ _ _ _ _ _ _ _ _ _ _ _ _ _ _ _ _ _ _ _ _ _ _ _ _ _ _ _ _ _ _ _ _ _ _ _ _ _ _ _ _ _ _ _ _ _ _ _ _ _ _ _ _ _ _ _ _ _ _ _ _ _ _ _ _ _ _ _ _ _ _ _ _ _ _ _ hc_86) (by omega) rfl hl.1 rfl (mm_cat rfl) dX9_goesDeeper_151 hP hD hA hS rfl rfl (fun H locs hP hD hS => ?_)
        refine W.eq (g2 := F0 m 154 ls []) rfl ?_
        exact tX9_goesDeeper_154 hgo hE hd C0 hA N hk_66 ih _ _ _ _ _ _ _ _ _ _ _ _ _ _ _ _ _ _ _ _ _ _ _ _ _ _ _ _ _ _ _ _ _ _ _ _ _ _ _ _ H locs ls hf hP hD hS (lv_sub hl [0, 1, 2, 3, 4, 5, 6] rfl)
      · have hf := mm_ip hf (mm_b0 c_24)
        refine lv_goto (tgt := 154) hx hb dX9_goesDeeper_96 (by decide) ?_
        exact tX9_goesDeeper_154 hgo hE hd C0 hA N hk_66 ih _ _ _ _ _ _ _ _ _ _ _ _ _ _ _ _ _ _ _ _ _ _ _ _ _ _ _ _ _ _ _ _ _ _ _ _ _ _ _ _ H locs ls hf hP hD hS (lv_sub hl [0, 1, 2, 3, 4, 5, 6] rfl)

def fX9_goesDeeper_66 (N : Nat) (go : Int32 → Int32 → Int32 → Int32 → Int32 → Int32 → Int32 → Int32 → Int32 → Int32 → Int32 → Int32 → Int32 → Int32 → Int32 → Bool → Int32 → Int32 → Int32 → List Int32 → List Int32 → List Int32 → List Int32 → List Int32 → List Int32 → List Int32 → List Int32 → List Int32 → List Int32 → List Int32 → List Int32 → List Int32 → List Int32 → List Int32 → List Int32 → List Int32 → List Int32 → Option (Int32 × Int32 × Int32 × Int32 × Int32 × Int32 × Int32 × Int32 × Bool × Int32 × Int32 × Int32 × List Int32 × List Int32 × List Int32 × List Int32 × List Int32 × List Int32 × List Int32 × List Int32 × List Int32 × List Int32 × List Int32 × List Int32 × List Int32 × List Int32 × List Int32))  : Nat → Int32 → Int32 → Int32 → Int32 → Int32 → Int32 → Int32 → Int32 → Int32 → Int32 → Int32 → Int32 → Int32 → Int32 → Int32 → Int32 → Int32 → Bool → Int32 → Int32 → Int32 → List Int32 → List Int32 → List Int32 → List Int32 → List Int32 → List Int32 → List Int32 → List Int32 → List Int32 → List Int32 → List Int32 → List Int32 → List Int32 → List Int32 → List Int32 → List Int32 → List Int32 → List Int32 → Option (Int32 × Int32 × Int32 × Int32 × Int32 × Int32 × Int32 × Int32 × Bool × Int32 × Int32 × Int32 × List Int32 × List Int32 × List Int32 × List Int32 × List Int32 × List Int32 × List Int32 × List Int32 × List Int32 × List Int32 × List Int32 × List Int32 × List Int32 × List Int32 × List Int32)
  | 0 => fun _ _ _ _ _ _ _ _ _ _ _ _ _ _ _ _ _ _ _ _ _ _ _ _ _ _ _ _ _ _ _ _ _ _ _ _ _ _ _ => none
  | n + 1 => fun x1 x2 x3 x4 x5 v_rowsOf v_columnsOf v_textMany v_base v_at v_ends v_fault v_opened v_bentMany v_bentWrong v_moreWorn v_wishedField v_isFound v_bestWrong v_bestWorn v_bestMany v_limit v_shapeRows v_shapeColumns v_row v_column v_below v_face v_worn v_lastBend v_tape v_text v_names v_bends v_high v_to v_pileSize v_way1 v_bestWay =>
    if (8 : Int32) ≤ x5 then
    (some (v_base, v_at, v_ends, v_fault, v_opened, v_bentMany, v_bentWrong, v_moreWorn, v_isFound, v_bestWrong, v_bestWorn, v_bestMany, v_shapeRows, v_shapeColumns, v_row, v_column, v_below, v_face, v_worn, v_lastBend, v_names, v_bends, v_high, v_to, v_pileSize, v_way1, v_bestWay))
    else (fX9_goesDeeper_76 N go (fX9_goesDeeper_66 N go n) N x1 x2 x3 x4 x5 (0 : Int32) v_rowsOf v_columnsOf v_textMany v_base v_at v_ends v_fault v_opened v_bentMany v_bentWrong v_moreWorn v_wishedField v_isFound v_bestWrong v_bestWorn v_bestMany v_limit v_shapeRows v_shapeColumns v_row v_column v_below v_face v_worn v_lastBend v_tape v_text v_names v_bends v_high v_to v_pileSize v_way1 v_bestWay)

set_option maxHeartbeats 4000000 in
set_option maxRecDepth 100000 in
theorem tX9_goesDeeper_66 {p : Program} {l : Launch} {e : Env} {s : State} {m : MethodId} {args : Array Value} {below : List Frame} {meth : Method} {c : Code} {D : va_G} {cI cL cS cH : ClassId} {A : Nat → Prop} {d : Nat} {a : Nat → Nat} {go : Int32 → Int32 → Int32 → Int32 → Int32 → Int32 → Int32 → Int32 → Int32 → Int32 → Int32 → Int32 → Int32 → Int32 → Int32 → Bool → Int32 → Int32 → Int32 → List Int32 → List Int32 → List Int32 → List Int32 → List Int32 → List Int32 → List Int32 → List Int32 → List Int32 → List Int32 → List Int32 → List Int32 → List Int32 → List Int32 → List Int32 → List Int32 → List Int32 → List Int32 → Option (Int32 × Int32 × Int32 × Int32 × Int32 × Int32 × Int32 × Int32 × Bool × Int32 × Int32 × Int32 × List Int32 × List Int32 × List Int32 × List Int32 × List Int32 × List Int32 × List Int32 × List Int32 × List Int32 × List Int32 × List Int32 × List Int32 × List Int32 × List Int32 × List Int32)} {dgo : Nat} (hgo : ∀ (a : Nat → Nat) (x1 : Int32) (x2 : Int32) (x3 : Int32) (v_keptMany : Int32) (v_done : Int32) (v_rowsOf : Int32) (v_columnsOf : Int32) (v_folded : Int32) (v_wronged : Int32) (v_tapeMany : Int32) (v_textMany : Int32) (v_base : Int32) (v_at : Int32) (v_ends : Int32) (v_fault : Int32) (v_opened : Int32) (v_bentMany : Int32) (v_bentWrong : Int32) (v_moreWorn : Int32) (v_planned : Int32) (v_allWrong : Int32) (v_allWorn : Int32) (v_z : Int32) (v_wishedField : Int32) (v_isFound : Bool) (v_bestWrong : Int32) (v_bestWorn : Int32) (v_bestMany : Int32) (v_soughtBy : Int32) (v_sought : Int32) (v_soughtAt : Int32) (v_foundMany : Int32) (v_foundOrder : Int32) (v_isKept : Bool) (v_imageRows : Int32) (v_imageColumns : Int32) (v_imageFolded : Int32) (v_imageWronged : Int32) (v_bodies : Int32) (v_ran : Int32) (v_ownKind : Int32) (v_ownNumber : Int32) (v_limit : List Int32) (v_changeWas : List Int32) (v_changeIs : List Int32) (v_shapeRows : List Int32) (v_shapeColumns : List Int32) (v_row : List Int32) (v_column : List Int32) (v_below : List Int32) (v_face : List Int32) (v_worn : List Int32) (v_lastBend : List Int32) (v_tape : List Int32) (v_text : List Int32) (v_names : List Int32) (v_bends : List Int32) (v_high : List Int32) (v_to : List Int32) (v_pileSize : List Int32) (v_planLine : List Int32) (v_planWay : List Int32) (v_way1 : List Int32) (v_bestWay : List Int32) (v_order1 : List Int32) (v_placeIn : List Int32) (v_bodyKind : List Int32) (v_trace : List Int32) (v_shelf : List Int32) (v_many : List Int32) (v_items : List Int64) (v_carried : List Int64) (w_base : Int32) (w_at : Int32) (w_ends : Int32) (w_fault : Int32) (w_opened : Int32) (w_bentMany : Int32) (w_bentWrong : Int32) (w_moreWorn : Int32) (w_isFound : Bool) (w_bestWrong : Int32) (w_bestWorn : Int32) (w_bestMany : Int32) (w_shapeRows : List Int32) (w_shapeColumns : List Int32) (w_row : List Int32) (w_column : List Int32) (w_below : List Int32) (w_face : List Int32) (w_worn : List Int32) (w_lastBend : List Int32) (w_names : List Int32) (w_bends : List Int32) (w_high : List Int32) (w_to : List Int32) (w_pileSize : List Int32) (w_way1 : List Int32) (w_bestWay : List Int32), go x1 x2 x3 v_rowsOf v_columnsOf v_textMany v_base v_at v_ends v_fault v_opened v_bentMany v_bentWrong v_moreWorn v_wishedField v_isFound v_bestWrong v_bestWorn v_bestMany v_limit v_shapeRows v_shapeColumns v_row v_column v_below v_face v_worn v_lastBend v_tape v_text v_names v_bends v_high v_to v_pileSize v_way1 v_bestWay = some (w_base, w_at, w_ends, w_fault, w_opened, w_bentMany, w_bentWrong, w_moreWorn, w_isFound, w_bestWrong, w_bestWorn, w_bestMany, w_shapeRows, w_shapeColumns, w_row, w_column, w_below, w_face, w_worn, w_lastBend, w_names, w_bends, w_high, w_to, w_pileSize, w_way1, w_bestWay) → mm_Ct l yX9_goesDeeper cX9_goesDeeper 7 none dgo D (mm_T cI cL cS cH) [.ref (a 0), .int x1, .int x2, .int x3] (wd_X9 cI cL cS cH a v_keptMany v_done v_rowsOf v_columnsOf v_folded v_wronged v_tapeMany v_textMany v_base v_at v_ends v_fault v_opened v_bentMany v_bentWrong v_moreWorn v_planned v_allWrong v_allWorn v_z v_wishedField v_isFound v_bestWrong v_bestWorn v_bestMany v_soughtBy v_sought v_soughtAt v_foundMany v_foundOrder v_isKept v_imageRows v_imageColumns v_imageFolded v_imageWronged v_bodies v_ran v_ownKind v_ownNumber v_limit v_changeWas v_changeIs v_shapeRows v_shapeColumns v_row v_column v_below v_face v_worn v_lastBend v_tape v_text v_names v_bends v_high v_to v_pileSize v_planLine v_planWay v_way1 v_bestWay v_order1 v_placeIn v_bodyKind v_trace v_shelf v_many v_items v_carried) (wd_X9 cI cL cS cH a v_keptMany v_done v_rowsOf v_columnsOf v_folded v_wronged v_tapeMany v_textMany w_base w_at w_ends w_fault w_opened w_bentMany w_bentWrong w_moreWorn v_planned v_allWrong v_allWorn v_z v_wishedField w_isFound w_bestWrong w_bestWorn w_bestMany v_soughtBy v_sought v_soughtAt v_foundMany v_foundOrder v_isKept v_imageRows v_imageColumns v_imageFolded v_imageWronged v_bodies v_ran v_ownKind v_ownNumber v_limit v_changeWas v_changeIs w_shapeRows w_shapeColumns w_row w_column w_below w_face w_worn w_lastBend v_tape v_text w_names w_bends w_high w_to w_pileSize v_planLine v_planWay w_way1 w_bestWay v_order1 v_placeIn v_bodyKind v_trace v_shelf v_many v_items v_carried) none) (hE : 59 ≤ dgo) (hd : dgo + 1 ≤ d) (C0 : mm_Cx p s m args meth c RX9 cX9_goesDeeper 7 none D (mm_T cI cL cS cH) A) (hA : ∀ q, s.heap.size ≤ q → A q) {v_keptMany : Int32} {v_done : Int32} {v_folded : Int32} {v_wronged : Int32} {v_tapeMany : Int32} {v_planned : Int32} {v_allWrong : Int32} {v_allWorn : Int32} {v_z : Int32} {v_soughtBy : Int32} {v_sought : Int32} {v_soughtAt : Int32} {v_foundMany : Int32} {v_foundOrder : Int32} {v_isKept : Bool} {v_imageRows : Int32} {v_imageColumns : Int32} {v_imageFolded : Int32} {v_imageWronged : Int32} {v_bodies : Int32} {v_ran : Int32} {v_ownKind : Int32} {v_ownNumber : Int32} {v_changeWas : List Int32} {v_changeIs : List Int32} {v_planLine : List Int32} {v_planWay : List Int32} {v_order1 : List Int32} {v_placeIn : List Int32} {v_bodyKind : List Int32} {v_trace : List Int32} {v_shelf : List Int32} {v_many : List Int32} {v_items : List Int64} {v_carried : List Int64} {w_base : Int32} {w_at : Int32} {w_ends : Int32} {w_fault : Int32} {w_opened : Int32} {w_bentMany : Int32} {w_bentWrong : Int32} {w_moreWorn : Int32} {w_isFound : Bool} {w_bestWrong : Int32} {w_bestWorn : Int32} {w_bestMany : Int32} {w_shapeRows : List Int32} {w_shapeColumns : List Int32} {w_row : List Int32} {w_column : List Int32} {w_below : List Int32} {w_face : List Int32} {w_worn : List Int32} {w_lastBend : List Int32} {w_names : List Int32} {w_bends : List Int32} {w_high : List Int32} {w_to : List Int32} {w_pileSize : List Int32} {w_way1 : List Int32} {w_bestWay : List Int32} (N : Nat)  : ∀ (n : Nat), ∀ (x1 : Int32) (x2 : Int32) (x3 : Int32) (x4 : Int32) (x5 : Int32) (v_rowsOf : Int32) (v_columnsOf : Int32) (v_textMany : Int32) (v_base : Int32) (v_at : Int32) (v_ends : Int32) (v_fault : Int32) (v_opened : Int32) (v_bentMany : Int32) (v_bentWrong : Int32) (v_moreWorn : Int32) (v_wishedField : Int32) (v_isFound : Bool) (v_bestWrong : Int32) (v_bestWorn : Int32) (v_bestMany : Int32) (v_limit : List Int32) (v_shapeRows : List Int32) (v_shapeColumns : List Int32) (v_row : List Int32) (v_column : List Int32) (v_below : List Int32) (v_face : List Int32) (v_worn : List Int32) (v_lastBend : List Int32) (v_tape : List Int32) (v_text : List Int32) (v_names : List Int32) (v_bends : List Int32) (v_high : List Int32) (v_to : List Int32) (v_pileSize : List Int32) (v_way1 : List Int32) (v_bestWay : List Int32) (H : Heap) (locs : List Loc) (ls : Array Slot), fX9_goesDeeper_66 N go n x1 x2 x3 x4 x5 v_rowsOf v_columnsOf v_textMany v_base v_at v_ends v_fault v_opened v_bentMany v_bentWrong v_moreWorn v_wishedField v_isFound v_bestWrong v_bestWorn v_bestMany v_limit v_shapeRows v_shapeColumns v_row v_column v_below v_face v_worn v_lastBend v_tape v_text v_names v_bends v_high v_to v_pileSize v_way1 v_bestWay = some (w_base, w_at, w_ends, w_fault, w_opened, w_bentMany, w_bentWrong, w_moreWorn, w_isFound, w_bestWrong, w_bestWorn, w_bestMany, w_shapeRows, w_shapeColumns, w_row, w_column, w_below, w_face, w_worn, w_lastBend, w_names, w_bends, w_high, w_to, w_pileSize, w_way1, w_bestWay) → va_P D mm_cl (wd_X9 cI cL cS cH a v_keptMany v_done v_rowsOf v_columnsOf v_folded v_wronged v_tapeMany v_textMany v_base v_at v_ends v_fault v_opened v_bentMany v_bentWrong v_moreWorn v_planned v_allWrong v_allWorn v_z v_wishedField v_isFound v_bestWrong v_bestWorn v_bestMany v_soughtBy v_sought v_soughtAt v_foundMany v_foundOrder v_isKept v_imageRows v_imageColumns v_imageFolded v_imageWronged v_bodies v_ran v_ownKind v_ownNumber v_limit v_changeWas v_changeIs v_shapeRows v_shapeColumns v_row v_column v_below v_face v_worn v_lastBend v_tape v_text v_names v_bends v_high v_to v_pileSize v_planLine v_planWay v_way1 v_bestWay v_order1 v_placeIn v_bodyKind v_trace v_shelf v_many v_items v_carried) H → va_D A (wd_X9 cI cL cS cH a v_keptMany v_done v_rowsOf v_columnsOf v_folded v_wronged v_tapeMany v_textMany v_base v_at v_ends v_fault v_opened v_bentMany v_bentWrong v_moreWorn v_planned v_allWrong v_allWorn v_z v_wishedField v_isFound v_bestWrong v_bestWorn v_bestMany v_soughtBy v_sought v_soughtAt v_foundMany v_foundOrder v_isKept v_imageRows v_imageColumns v_imageFolded v_imageWronged v_bodies v_ran v_ownKind v_ownNumber v_limit v_changeWas v_changeIs v_shapeRows v_shapeColumns v_row v_column v_below v_face v_worn v_lastBend v_tape v_text v_names v_bends v_high v_to v_pileSize v_planLine v_planWay v_way1 v_bestWay v_order1 v_placeIn v_bodyKind v_trace v_shelf v_many v_items v_carried) → va_S A s.heap H locs → lv_has ls 7 [(0, .ref (a 0)), (1, .int x1), (2, .int x2), (3, .int x3), (4, .int x4), (5, .int x5)] → W p l e (mm_rr d) s m args below meth c H locs 0 0 (mm_Z below D A (wd_X9 cI cL cS cH a v_keptMany v_done v_rowsOf v_columnsOf v_folded v_wronged v_tapeMany v_textMany w_base w_at w_ends w_fault w_opened w_bentMany w_bentWrong w_moreWorn v_planned v_allWrong v_allWorn v_z v_wishedField w_isFound w_bestWrong w_bestWorn w_bestMany v_soughtBy v_sought v_soughtAt v_foundMany v_foundOrder v_isKept v_imageRows v_imageColumns v_imageFolded v_imageWronged v_bodies v_ran v_ownKind v_ownNumber v_limit v_changeWas v_changeIs w_shapeRows w_shapeColumns w_row w_column w_below w_face w_worn w_lastBend v_tape v_text w_names w_bends w_high w_to w_pileSize v_planLine v_planWay w_way1 w_bestWay v_order1 v_placeIn v_bodyKind v_trace v_shelf v_many v_items v_carried) none args s) (F0 m 66 ls []) := by
  obtain ⟨hx, hb, hml, hown, hts, hr, hlocks, hK, hSt⟩ := id C0
  intro n
  induction n with
  | zero =>
    intro x1 x2 x3 x4 x5 v_rowsOf v_columnsOf v_textMany v_base v_at v_ends v_fault v_opened v_bentMany v_bentWrong v_moreWorn v_wishedField v_isFound v_bestWrong v_bestWorn v_bestMany v_limit v_shapeRows v_shapeColumns v_row v_column v_below v_face v_worn v_lastBend v_tape v_text v_names v_bends v_high v_to v_pileSize v_way1 v_bestWay H locs ls hf
    cases (show none = some _ from hf)
  | succ n ih =>
    intro x1 x2 x3 x4 x5 v_rowsOf v_columnsOf v_textMany v_base v_at v_ends v_fault v_opened v_bentMany v_bentWrong v_moreWorn v_wishedField v_isFound v_bestWrong v_bestWorn v_bestMany v_limit v_shapeRows v_shapeColumns v_row v_column v_below v_face v_worn v_lastBend v_tape v_text v_names v_bends v_high v_to v_pileSize v_way1 v_bestWay H locs ls hf hP hD hS hl
    unfold fX9_goesDeeper_66 at hf
    refine lv_iload hx hb dX9_goesDeeper_66 (lv_at hl 5 rfl) ?_
    refine lv_bipush (v := 8) hx hb dX9_goesDeeper_68 (by decide) ?_
    refine lv_icmp_ge (tgt := 166) hx hb dX9_goesDeeper_70 (by decide) (fun c_19 => ?_) (fun c_19 => ?_)
    · have hf := mm_ip hf c_19
      apply mm_sub27 hf
      exact mm_vret C0 hP hD hS dX9_goesDeeper_166
    · have hf := mm_in hf c_19
      refine lv_iconst (v := 0) hx hb dX9_goesDeeper_73 (by decide) ?_
      refine lv_istore (lv' := [(6, .int (0 : Int32)), (0, .ref (a 0)), (1, .int x1), (2, .int x2), (3, .int x3), (4, .int x4), (5, .int x5)]) hx hb dX9_goesDeeper_74 hl (by decide) rfl (fun ls hl => ?_)
      exact tX9_goesDeeper_76 hgo hE hd C0 hA N ih N _ _ _ _ _ _ _ _ _ _ _ _ _ _ _ _ _ _ _ _ _ _ _ _ _ _ _ _ _ _ _ _ _ _ _ _ _ _ _ _ H locs ls hf hP hD hS (lv_sub hl [1, 2, 3, 4, 5, 6, 0] rfl)

def fX9_goesDeeper_35 (N : Nat) (go : Int32 → Int32 → Int32 → Int32 → Int32 → Int32 → Int32 → Int32 → Int32 → Int32 → Int32 → Int32 → Int32 → Int32 → Int32 → Bool → Int32 → Int32 → Int32 → List Int32 → List Int32 → List Int32 → List Int32 → List Int32 → List Int32 → List Int32 → List Int32 → List Int32 → List Int32 → List Int32 → List Int32 → List Int32 → List Int32 → List Int32 → List Int32 → List Int32 → List Int32 → Option (Int32 × Int32 × Int32 × Int32 × Int32 × Int32 × Int32 × Int32 × Bool × Int32 × Int32 × Int32 × List Int32 × List Int32 × List Int32 × List Int32 × List Int32 × List Int32 × List Int32 × List Int32 × List Int32 × List Int32 × List Int32 × List Int32 × List Int32 × List Int32 × List Int32))  (x1 : Int32) (x2 : Int32) (x3 : Int32) (x4 : Int32) (v_rowsOf : Int32) (v_columnsOf : Int32) (v_textMany : Int32) (v_base : Int32) (v_at : Int32) (v_ends : Int32) (v_fault : Int32) (v_opened : Int32) (v_bentMany : Int32) (v_bentWrong : Int32) (v_moreWorn : Int32) (v_wishedField : Int32) (v_isFound : Bool) (v_bestWrong : Int32) (v_bestWorn : Int32) (v_bestMany : Int32) (v_limit : List Int32) (v_shapeRows : List Int32) (v_shapeColumns : List Int32) (v_row : List Int32) (v_column : List Int32) (v_below : List Int32) (v_face : List Int32) (v_worn : List Int32) (v_lastBend : List Int32) (v_tape : List Int32) (v_text : List Int32) (v_names : List Int32) (v_bends : List Int32) (v_high : List Int32) (v_to : List Int32) (v_pileSize : List Int32) (v_way1 : List Int32) (v_bestWay : List Int32) : Option (Int32 × Int32 × Int32 × Int32 × Int32 × Int32 × Int32 × Int32 × Bool × Int32 × Int32 × Int32 × List Int32 × List Int32 × List Int32 × List Int32 × List Int32 × List Int32 × List Int32 × List Int32 × List Int32 × List Int32 × List Int32 × List Int32 × List Int32 × List Int32 × List Int32) :=
    mm_ck (mm_inb x4 v_shapeRows.length) (mm_bd1 (fX9_halvings N (mm_ig v_shapeRows x4)) (fun (r_13 : Int32) =>
    mm_ck (mm_inb x4 v_shapeColumns.length) (mm_bd1 (fX9_halvings N (mm_ig v_shapeColumns x4)) (fun (r_16 : Int32) =>
    if (r_13 + r_16) ≤ ((3 : Int32) - x1) then
    (fX9_goesDeeper_66 N go N x1 x2 x3 x4 (1 : Int32) v_rowsOf v_columnsOf v_textMany v_base v_at v_ends v_fault v_opened v_bentMany v_bentWrong v_moreWorn v_wishedField v_isFound v_bestWrong v_bestWorn v_bestMany v_limit v_shapeRows v_shapeColumns v_row v_column v_below v_face v_worn v_lastBend v_tape v_text v_names v_bends v_high v_to v_pileSize v_way1 v_bestWay)
    else (some (v_base, v_at, v_ends, v_fault, v_opened, v_bentMany, v_bentWrong, v_moreWorn, v_isFound, v_bestWrong, v_bestWorn, v_bestMany, v_shapeRows, v_shapeColumns, v_row, v_column, v_below, v_face, v_worn, v_lastBend, v_names, v_bends, v_high, v_to, v_pileSize, v_way1, v_bestWay))))))

set_option maxHeartbeats 4000000 in
set_option maxRecDepth 100000 in
theorem tX9_goesDeeper_35 {p : Program} {l : Launch} {e : Env} {s : State} {m : MethodId} {args : Array Value} {below : List Frame} {meth : Method} {c : Code} {D : va_G} {cI cL cS cH : ClassId} {A : Nat → Prop} {d : Nat} {a : Nat → Nat} {go : Int32 → Int32 → Int32 → Int32 → Int32 → Int32 → Int32 → Int32 → Int32 → Int32 → Int32 → Int32 → Int32 → Int32 → Int32 → Bool → Int32 → Int32 → Int32 → List Int32 → List Int32 → List Int32 → List Int32 → List Int32 → List Int32 → List Int32 → List Int32 → List Int32 → List Int32 → List Int32 → List Int32 → List Int32 → List Int32 → List Int32 → List Int32 → List Int32 → List Int32 → Option (Int32 × Int32 × Int32 × Int32 × Int32 × Int32 × Int32 × Int32 × Bool × Int32 × Int32 × Int32 × List Int32 × List Int32 × List Int32 × List Int32 × List Int32 × List Int32 × List Int32 × List Int32 × List Int32 × List Int32 × List Int32 × List Int32 × List Int32 × List Int32 × List Int32)} {dgo : Nat} (hgo : ∀ (a : Nat → Nat) (x1 : Int32) (x2 : Int32) (x3 : Int32) (v_keptMany : Int32) (v_done : Int32) (v_rowsOf : Int32) (v_columnsOf : Int32) (v_folded : Int32) (v_wronged : Int32) (v_tapeMany : Int32) (v_textMany : Int32) (v_base : Int32) (v_at : Int32) (v_ends : Int32) (v_fault : Int32) (v_opened : Int32) (v_bentMany : Int32) (v_bentWrong : Int32) (v_moreWorn : Int32) (v_planned : Int32) (v_allWrong : Int32) (v_allWorn : Int32) (v_z : Int32) (v_wishedField : Int32) (v_isFound : Bool) (v_bestWrong : Int32) (v_bestWorn : Int32) (v_bestMany : Int32) (v_soughtBy : Int32) (v_sought : Int32) (v_soughtAt : Int32) (v_foundMany : Int32) (v_foundOrder : Int32) (v_isKept : Bool) (v_imageRows : Int32) (v_imageColumns : Int32) (v_imageFolded : Int32) (v_imageWronged : Int32) (v_bodies : Int32) (v_ran : Int32) (v_ownKind : Int32) (v_ownNumber : Int32) (v_limit : List Int32) (v_changeWas : List Int32) (v_changeIs : List Int32) (v_shapeRows : List Int32) (v_shapeColumns : List Int32) (v_row : List Int32) (v_column : List Int32) (v_below : List Int32) (v_face : List Int32) (v_worn : List Int32) (v_lastBend : List Int32) (v_tape : List Int32) (v_text : List Int32) (v_names : List Int32) (v_bends : List Int32) (v_high : List Int32) (v_to : List Int32) (v_pileSize : List Int32) (v_planLine : List Int32) (v_planWay : List Int32) (v_way1 : List Int32) (v_bestWay : List Int32) (v_order1 : List Int32) (v_placeIn : List Int32) (v_bodyKind : List Int32) (v_trace : List Int32) (v_shelf : List Int32) (v_many : List Int32) (v_items : List Int64) (v_carried : List Int64) (w_base : Int32) (w_at : Int32) (w_ends : Int32) (w_fault : Int32) (w_opened : Int32) (w_bentMany : Int32) (w_bentWrong : Int32) (w_moreWorn : Int32) (w_isFound : Bool) (w_bestWrong : Int32) (w_bestWorn : Int32) (w_bestMany : Int32) (w_shapeRows : List Int32) (w_shapeColumns : List Int32) (w_row : List Int32) (w_column : List Int32) (w_below : List Int32) (w_face : List Int32) (w_worn : List Int32) (w_lastBend : List Int32) (w_names : List Int32) (w_bends : List Int32) (w_high : List Int32) (w_to : List Int32) (w_pileSize : List Int32) (w_way1 : List Int32) (w_bestWay : List Int32), go x1 x2 x3 v_rowsOf v_columnsOf v_textMany v_base v_at v_ends v_fault v_opened v_bentMany v_bentWrong v_moreWorn v_wishedField v_isFound v_bestWrong v_bestWorn v_bestMany v_limit v_shapeRows v_shapeColumns v_row v_column v_below v_face v_worn v_lastBend v_tape v_text v_names v_bends v_high v_to v_pileSize v_way1 v_bestWay = some (w_base, w_at, w_ends, w_fault, w_opened, w_bentMany, w_bentWrong, w_moreWorn, w_isFound, w_bestWrong, w_bestWorn, w_bestMany, w_shapeRows, w_shapeColumns, w_row, w_column, w_below, w_face, w_worn, w_lastBend, w_names, w_bends, w_high, w_to, w_pileSize, w_way1, w_bestWay) → mm_Ct l yX9_goesDeeper cX9_goesDeeper 7 none dgo D (mm_T cI cL cS cH) [.ref (a 0), .int x1, .int x2, .int x3] (wd_X9 cI cL cS cH a v_keptMany v_done v_rowsOf v_columnsOf v_folded v_wronged v_tapeMany v_textMany v_base v_at v_ends v_fault v_opened v_bentMany v_bentWrong v_moreWorn v_planned v_allWrong v_allWorn v_z v_wishedField v_isFound v_bestWrong v_bestWorn v_bestMany v_soughtBy v_sought v_soughtAt v_foundMany v_foundOrder v_isKept v_imageRows v_imageColumns v_imageFolded v_imageWronged v_bodies v_ran v_ownKind v_ownNumber v_limit v_changeWas v_changeIs v_shapeRows v_shapeColumns v_row v_column v_below v_face v_worn v_lastBend v_tape v_text v_names v_bends v_high v_to v_pileSize v_planLine v_planWay v_way1 v_bestWay v_order1 v_placeIn v_bodyKind v_trace v_shelf v_many v_items v_carried) (wd_X9 cI cL cS cH a v_keptMany v_done v_rowsOf v_columnsOf v_folded v_wronged v_tapeMany v_textMany w_base w_at w_ends w_fault w_opened w_bentMany w_bentWrong w_moreWorn v_planned v_allWrong v_allWorn v_z v_wishedField w_isFound w_bestWrong w_bestWorn w_bestMany v_soughtBy v_sought v_soughtAt v_foundMany v_foundOrder v_isKept v_imageRows v_imageColumns v_imageFolded v_imageWronged v_bodies v_ran v_ownKind v_ownNumber v_limit v_changeWas v_changeIs w_shapeRows w_shapeColumns w_row w_column w_below w_face w_worn w_lastBend v_tape v_text w_names w_bends w_high w_to w_pileSize v_planLine v_planWay w_way1 w_bestWay v_order1 v_placeIn v_bodyKind v_trace v_shelf v_many v_items v_carried) none) (hE : 59 ≤ dgo) (hd : dgo + 1 ≤ d) (C0 : mm_Cx p s m args meth c RX9 cX9_goesDeeper 7 none D (mm_T cI cL cS cH) A) (hA : ∀ q, s.heap.size ≤ q → A q) {v_keptMany : Int32} {v_done : Int32} {v_folded : Int32} {v_wronged : Int32} {v_tapeMany : Int32} {v_planned : Int32} {v_allWrong : Int32} {v_allWorn : Int32} {v_z : Int32} {v_soughtBy : Int32} {v_sought : Int32} {v_soughtAt : Int32} {v_foundMany : Int32} {v_foundOrder : Int32} {v_isKept : Bool} {v_imageRows : Int32} {v_imageColumns : Int32} {v_imageFolded : Int32} {v_imageWronged : Int32} {v_bodies : Int32} {v_ran : Int32} {v_ownKind : Int32} {v_ownNumber : Int32} {v_changeWas : List Int32} {v_changeIs : List Int32} {v_planLine : List Int32} {v_planWay : List Int32} {v_order1 : List Int32} {v_placeIn : List Int32} {v_bodyKind : List Int32} {v_trace : List Int32} {v_shelf : List Int32} {v_many : List Int32} {v_items : List Int64} {v_carried : List Int64} {w_base : Int32} {w_at : Int32} {w_ends : Int32} {w_fault : Int32} {w_opened : Int32} {w_bentMany : Int32} {w_bentWrong : Int32} {w_moreWorn : Int32} {w_isFound : Bool} {w_bestWrong : Int32} {w_bestWorn : Int32} {w_bestMany : Int32} {w_shapeRows : List Int32} {w_shapeColumns : List Int32} {w_row : List Int32} {w_column : List Int32} {w_below : List Int32} {w_face : List Int32} {w_worn : List Int32} {w_lastBend : List Int32} {w_names : List Int32} {w_bends : List Int32} {w_high : List Int32} {w_to : List Int32} {w_pileSize : List Int32} {w_way1 : List Int32} {w_bestWay : List Int32} (N : Nat)  : ∀ (x1 : Int32) (x2 : Int32) (x3 : Int32) (x4 : Int32) (v_rowsOf : Int32) (v_columnsOf : Int32) (v_textMany : Int32) (v_base : Int32) (v_at : Int32) (v_ends : Int32) (v_fault : Int32) (v_opened : Int32) (v_bentMany : Int32) (v_bentWrong : Int32) (v_moreWorn : Int32) (v_wishedField : Int32) (v_isFound : Bool) (v_bestWrong : Int32) (v_bestWorn : Int32) (v_bestMany : Int32) (v_limit : List Int32) (v_shapeRows : List Int32) (v_shapeColumns : List Int32) (v_row : List Int32) (v_column : List Int32) (v_below : List Int32) (v_face : List Int32) (v_worn : List Int32) (v_lastBend : List Int32) (v_tape : List Int32) (v_text : List Int32) (v_names : List Int32) (v_bends : List Int32) (v_high : List Int32) (v_to : List Int32) (v_pileSize : List Int32) (v_way1 : List Int32) (v_bestWay : List Int32) (H : Heap) (locs : List Loc) (ls : Array Slot), fX9_goesDeeper_35 N go x1 x2 x3 x4 v_rowsOf v_columnsOf v_textMany v_base v_at v_ends v_fault v_opened v_bentMany v_bentWrong v_moreWorn v_wishedField v_isFound v_bestWrong v_bestWorn v_bestMany v_limit v_shapeRows v_shapeColumns v_row v_column v_below v_face v_worn v_lastBend v_tape v_text v_names v_bends v_high v_to v_pileSize v_way1 v_bestWay = some (w_base, w_at, w_ends, w_fault, w_opened, w_bentMany, w_bentWrong, w_moreWorn, w_isFound, w_bestWrong, w_bestWorn, w_bestMany, w_shapeRows, w_shapeColumns, w_row, w_column, w_below, w_face, w_worn, w_lastBend, w_names, w_bends, w_high, w_to, w_pileSize, w_way1, w_bestWay) → va_P D mm_cl (wd_X9 cI cL cS cH a v_keptMany v_done v_rowsOf v_columnsOf v_folded v_wronged v_tapeMany v_textMany v_base v_at v_ends v_fault v_opened v_bentMany v_bentWrong v_moreWorn v_planned v_allWrong v_allWorn v_z v_wishedField v_isFound v_bestWrong v_bestWorn v_bestMany v_soughtBy v_sought v_soughtAt v_foundMany v_foundOrder v_isKept v_imageRows v_imageColumns v_imageFolded v_imageWronged v_bodies v_ran v_ownKind v_ownNumber v_limit v_changeWas v_changeIs v_shapeRows v_shapeColumns v_row v_column v_below v_face v_worn v_lastBend v_tape v_text v_names v_bends v_high v_to v_pileSize v_planLine v_planWay v_way1 v_bestWay v_order1 v_placeIn v_bodyKind v_trace v_shelf v_many v_items v_carried) H → va_D A (wd_X9 cI cL cS cH a v_keptMany v_done v_rowsOf v_columnsOf v_folded v_wronged v_tapeMany v_textMany v_base v_at v_ends v_fault v_opened v_bentMany v_bentWrong v_moreWorn v_planned v_allWrong v_allWorn v_z v_wishedField v_isFound v_bestWrong v_bestWorn v_bestMany v_soughtBy v_sought v_soughtAt v_foundMany v_foundOrder v_isKept v_imageRows v_imageColumns v_imageFolded v_imageWronged v_bodies v_ran v_ownKind v_ownNumber v_limit v_changeWas v_changeIs v_shapeRows v_shapeColumns v_row v_column v_below v_face v_worn v_lastBend v_tape v_text v_names v_bends v_high v_to v_pileSize v_planLine v_planWay v_way1 v_bestWay v_order1 v_placeIn v_bodyKind v_trace v_shelf v_many v_items v_carried) → va_S A s.heap H locs → lv_has ls 7 [(0, .ref (a 0)), (1, .int x1), (2, .int x2), (3, .int x3), (4, .int x4)] → W p l e (mm_rr d) s m args below meth c H locs 0 0 (mm_Z below D A (wd_X9 cI cL cS cH a v_keptMany v_done v_rowsOf v_columnsOf v_folded v_wronged v_tapeMany v_textMany w_base w_at w_ends w_fault w_opened w_bentMany w_bentWrong w_moreWorn v_planned v_allWrong v_allWorn v_z v_wishedField w_isFound w_bestWrong w_bestWorn w_bestMany v_soughtBy v_sought v_soughtAt v_foundMany v_foundOrder v_isKept v_imageRows v_imageColumns v_imageFolded v_imageWronged v_bodies v_ran v_ownKind v_ownNumber v_limit v_changeWas v_changeIs w_shapeRows w_shapeColumns w_row w_column w_below w_face w_worn w_lastBend v_tape v_text w_names w_bends w_high w_to w_pileSize v_planLine v_planWay w_way1 w_bestWay v_order1 v_placeIn v_bodyKind v_trace v_shelf v_many v_items v_carried) none args s) (F0 m 35 ls []) := by
  obtain ⟨hx, hb, hml, hown, hts, hr, hlocks, hK, hSt⟩ := id C0
  intro x1 x2 x3 x4 v_rowsOf v_columnsOf v_textMany v_base v_at v_ends v_fault v_opened v_bentMany v_bentWrong v_moreWorn v_wishedField v_isFound v_bestWrong v_bestWorn v_bestMany v_limit v_shapeRows v_shapeColumns v_row v_column v_below v_face v_worn v_lastBend v_tape v_text v_names v_bends v_high v_to v_pileSize v_way1 v_bestWay H locs ls hf hP hD hS hl
  unfold fX9_goesDeeper_35 at hf
  refine lv_aload_n hx hb dX9_goesDeeper_35 rfl (lv_at hl 0 rfl) ?_
  refine mm_get C0 hP iw_X9 0 rfl rfl 7 (by decide) fl_X9_19 rfl dX9_goesDeeper_36 ?_
  refine lv_iload hx hb dX9_goesDeeper_39 (lv_at hl 4 rfl) ?_
  obtain ⟨h_12, hf⟩ := mm_cks hf
  refine mm_iald C0 hP 4 rfl h_12 dX9_goesDeeper_41 ?_
  obtain ⟨r_13, hc_14, hf⟩ := mm_bd1s hf
  refine mm_callS0 (rest := []) C0 lk_X9_323 (ctX9_halvings (d := d - 1) (by omega) hc_14) (by omega) rfl hl.1 rfl (mm_cat rfl) dX9_goesDeeper_42 hP hD hA hS (fun H locs hP hS => ?_)
  refine W.eq (g2 := F0 m 45 ls [.int r_13]) rfl ?_
  refine lv_aload_n hx hb dX9_goesDeeper_45 rfl (lv_at hl 0 rfl) ?_
  refine mm_get C0 hP iw_X9 0 rfl rfl 8 (by decide) fl_X9_22 rfl dX9_goesDeeper_46 ?_
  refine lv_iload hx hb dX9_goesDeeper_49 (lv_at hl 4 rfl) ?_
  obtain ⟨h_15, hf⟩ := mm_cks hf
  refine mm_iald C0 hP 5 rfl h_15 dX9_goesDeeper_51 ?_
  obtain ⟨r_16, hc_17, hf⟩ := mm_bd1s hf
  refine mm_callS0 (rest := [.int r_13]) C0 lk_X9_323 (ctX9_halvings (d := d - 1) (by omega) hc_17) (by omega) rfl hl.1 rfl (mm_cat rfl) dX9_goesDeeper_52 hP hD hA hS (fun H locs hP hS => ?_)
  refine W.eq (g2 := F0 m 55 ls [.int r_16, .int r_13]) rfl ?_
  refine lv_iadd hx hb dX9_goesDeeper_55 ?_
  refine lv_iconst (v := 3) hx hb dX9_goesDeeper_56 (by decide) ?_
  refine lv_iload_n hx hb dX9_goesDeeper_57 rfl (lv_at hl 1 rfl) ?_
  refine lv_isub hx hb dX9_goesDeeper_58 ?_
  refine lv_icmp_le (tgt := 63) hx hb dX9_goesDeeper_59 (by decide) (fun c_18 => ?_) (fun c_18 => ?_)
  · have hf := mm_ip hf c_18
    refine lv_iconst (v := 1) hx hb dX9_goesDeeper_63 (by decide) ?_
    refine lv_istore (lv' := [(5, .int (1 : Int32)), (0, .ref (a 0)), (1, .int x1), (2, .int x2), (3, .int x3), (4, .int x4)]) hx hb dX9_goesDeeper_64 hl (by decide) rfl (fun ls hl => ?_)
    exact tX9_goesDeeper_66 hgo hE hd C0 hA N  N _ _ _ _ _ _ _ _ _ _ _ _ _ _ _ _ _ _ _ _ _ _ _ _ _ _ _ _ _ _ _ _ _ _ _ _ _ _ _ H locs ls hf hP hD hS (lv_sub hl [1, 2, 3, 4, 5, 0] rfl)
  · have hf := mm_in hf c_18
    apply mm_sub27 hf
    exact mm_vret C0 hP hD hS dX9_goesDeeper_62

def fX9_goesDeepero (N : Nat) (go : Int32 → Int32 → Int32 → Int32 → Int32 → Int32 → Int32 → Int32 → Int32 → Int32 → Int32 → Int32 → Int32 → Int32 → Int32 → Bool → Int32 → Int32 → Int32 → List Int32 → List Int32 → List Int32 → List Int32 → List Int32 → List Int32 → List Int32 → List Int32 → List Int32 → List Int32 → List Int32 → List Int32 → List Int32 → List Int32 → List Int32 → List Int32 → List Int32 → List Int32 → Option (Int32 × Int32 × Int32 × Int32 × Int32 × Int32 × Int32 × Int32 × Bool × Int32 × Int32 × Int32 × List Int32 × List Int32 × List Int32 × List Int32 × List Int32 × List Int32 × List Int32 × List Int32 × List Int32 × List Int32 × List Int32 × List Int32 × List Int32 × List Int32 × List Int32)) (x1 : Int32) (x2 : Int32) (x3 : Int32) (v_rowsOf : Int32) (v_columnsOf : Int32) (v_textMany : Int32) (v_base : Int32) (v_at : Int32) (v_ends : Int32) (v_fault : Int32) (v_opened : Int32) (v_bentMany : Int32) (v_bentWrong : Int32) (v_moreWorn : Int32) (v_wishedField : Int32) (v_isFound : Bool) (v_bestWrong : Int32) (v_bestWorn : Int32) (v_bestMany : Int32) (v_limit : List Int32) (v_shapeRows : List Int32) (v_shapeColumns : List Int32) (v_row : List Int32) (v_column : List Int32) (v_below : List Int32) (v_face : List Int32) (v_worn : List Int32) (v_lastBend : List Int32) (v_tape : List Int32) (v_text : List Int32) (v_names : List Int32) (v_bends : List Int32) (v_high : List Int32) (v_to : List Int32) (v_pileSize : List Int32) (v_way1 : List Int32) (v_bestWay : List Int32) : Option (Int32 × Int32 × Int32 × Int32 × Int32 × Int32 × Int32 × Int32 × Bool × Int32 × Int32 × Int32 × List Int32 × List Int32 × List Int32 × List Int32 × List Int32 × List Int32 × List Int32 × List Int32 × List Int32 × List Int32 × List Int32 × List Int32 × List Int32 × List Int32 × List Int32) :=
    mm_nm ((x1 + (1 : Int32))) (fun (y_1 : Int32) =>
    mm_ck (mm_inb y_1 v_shapeRows.length) (if (mm_ig v_shapeRows y_1) = (1 : Int32) then
    (mm_ck (mm_inb y_1 v_shapeColumns.length) (if (mm_ig v_shapeColumns y_1) = (1 : Int32) then
    (mm_bd5 (fX9_ends1 N x1 x2 x3 v_rowsOf v_columnsOf v_wishedField v_isFound v_bestWrong v_bestWorn v_bestMany v_row v_column v_below v_way1 v_bestWay) (fun (w_6 : Bool) (w_7 : Int32) (w_8 : Int32) (w_9 : Int32) (w_10 : List Int32) =>
    some (v_base, v_at, v_ends, v_fault, v_opened, v_bentMany, v_bentWrong, v_moreWorn, w_6, w_7, w_8, w_9, v_shapeRows, v_shapeColumns, v_row, v_column, v_below, v_face, v_worn, v_lastBend, v_names, v_bends, v_high, v_to, v_pileSize, v_way1, w_10)))
    else (fX9_goesDeeper_35 N go x1 x2 x3 y_1 v_rowsOf v_columnsOf v_textMany v_base v_at v_ends v_fault v_opened v_bentMany v_bentWrong v_moreWorn v_wishedField v_isFound v_bestWrong v_bestWorn v_bestMany v_limit v_shapeRows v_shapeColumns v_row v_column v_below v_face v_worn v_lastBend v_tape v_text v_names v_bends v_high v_to v_pileSize v_way1 v_bestWay)))
    else (fX9_goesDeeper_35 N go x1 x2 x3 y_1 v_rowsOf v_columnsOf v_textMany v_base v_at v_ends v_fault v_opened v_bentMany v_bentWrong v_moreWorn v_wishedField v_isFound v_bestWrong v_bestWorn v_bestMany v_limit v_shapeRows v_shapeColumns v_row v_column v_below v_face v_worn v_lastBend v_tape v_text v_names v_bends v_high v_to v_pileSize v_way1 v_bestWay)))

set_option maxHeartbeats 4000000 in
set_option maxRecDepth 100000 in
theorem ctX9_goesDeepero {l : Launch} {D : va_G} {cI cL cS cH : ClassId} {a : Nat → Nat} {x1 : Int32} {x2 : Int32} {x3 : Int32} {v_keptMany : Int32} {v_done : Int32} {v_rowsOf : Int32} {v_columnsOf : Int32} {v_folded : Int32} {v_wronged : Int32} {v_tapeMany : Int32} {v_textMany : Int32} {v_base : Int32} {v_at : Int32} {v_ends : Int32} {v_fault : Int32} {v_opened : Int32} {v_bentMany : Int32} {v_bentWrong : Int32} {v_moreWorn : Int32} {v_planned : Int32} {v_allWrong : Int32} {v_allWorn : Int32} {v_z : Int32} {v_wishedField : Int32} {v_isFound : Bool} {v_bestWrong : Int32} {v_bestWorn : Int32} {v_bestMany : Int32} {v_soughtBy : Int32} {v_sought : Int32} {v_soughtAt : Int32} {v_foundMany : Int32} {v_foundOrder : Int32} {v_isKept : Bool} {v_imageRows : Int32} {v_imageColumns : Int32} {v_imageFolded : Int32} {v_imageWronged : Int32} {v_bodies : Int32} {v_ran : Int32} {v_ownKind : Int32} {v_ownNumber : Int32} {v_limit : List Int32} {v_changeWas : List Int32} {v_changeIs : List Int32} {v_shapeRows : List Int32} {v_shapeColumns : List Int32} {v_row : List Int32} {v_column : List Int32} {v_below : List Int32} {v_face : List Int32} {v_worn : List Int32} {v_lastBend : List Int32} {v_tape : List Int32} {v_text : List Int32} {v_names : List Int32} {v_bends : List Int32} {v_high : List Int32} {v_to : List Int32} {v_pileSize : List Int32} {v_planLine : List Int32} {v_planWay : List Int32} {v_way1 : List Int32} {v_bestWay : List Int32} {v_order1 : List Int32} {v_placeIn : List Int32} {v_bodyKind : List Int32} {v_trace : List Int32} {v_shelf : List Int32} {v_many : List Int32} {v_items : List Int64} {v_carried : List Int64} {w_base : Int32} {w_at : Int32} {w_ends : Int32} {w_fault : Int32} {w_opened : Int32} {w_bentMany : Int32} {w_bentWrong : Int32} {w_moreWorn : Int32} {w_isFound : Bool} {w_bestWrong : Int32} {w_bestWorn : Int32} {w_bestMany : Int32} {w_shapeRows : List Int32} {w_shapeColumns : List Int32} {w_row : List Int32} {w_column : List Int32} {w_below : List Int32} {w_face : List Int32} {w_worn : List Int32} {w_lastBend : List Int32} {w_names : List Int32} {w_bends : List Int32} {w_high : List Int32} {w_to : List Int32} {w_pileSize : List Int32} {w_way1 : List Int32} {w_bestWay : List Int32} {N d : Nat} {go : Int32 → Int32 → Int32 → Int32 → Int32 → Int32 → Int32 → Int32 → Int32 → Int32 → Int32 → Int32 → Int32 → Int32 → Int32 → Bool → Int32 → Int32 → Int32 → List Int32 → List Int32 → List Int32 → List Int32 → List Int32 → List Int32 → List Int32 → List Int32 → List Int32 → List Int32 → List Int32 → List Int32 → List Int32 → List Int32 → List Int32 → List Int32 → List Int32 → List Int32 → Option (Int32 × Int32 × Int32 × Int32 × Int32 × Int32 × Int32 × Int32 × Bool × Int32 × Int32 × Int32 × List Int32 × List Int32 × List Int32 × List Int32 × List Int32 × List Int32 × List Int32 × List Int32 × List Int32 × List Int32 × List Int32 × List Int32 × List Int32 × List Int32 × List Int32)} {dgo : Nat} (hgo : ∀ (a : Nat → Nat) (x1 : Int32) (x2 : Int32) (x3 : Int32) (v_keptMany : Int32) (v_done : Int32) (v_rowsOf : Int32) (v_columnsOf : Int32) (v_folded : Int32) (v_wronged : Int32) (v_tapeMany : Int32) (v_textMany : Int32) (v_base : Int32) (v_at : Int32) (v_ends : Int32) (v_fault : Int32) (v_opened : Int32) (v_bentMany : Int32) (v_bentWrong : Int32) (v_moreWorn : Int32) (v_planned : Int32) (v_allWrong : Int32) (v_allWorn : Int32) (v_z : Int32) (v_wishedField : Int32) (v_isFound : Bool) (v_bestWrong : Int32) (v_bestWorn : Int32) (v_bestMany : Int32) (v_soughtBy : Int32) (v_sought : Int32) (v_soughtAt : Int32) (v_foundMany : Int32) (v_foundOrder : Int32) (v_isKept : Bool) (v_imageRows : Int32) (v_imageColumns : Int32) (v_imageFolded : Int32) (v_imageWronged : Int32) (v_bodies : Int32) (v_ran : Int32) (v_ownKind : Int32) (v_ownNumber : Int32) (v_limit : List Int32) (v_changeWas : List Int32) (v_changeIs : List Int32) (v_shapeRows : List Int32) (v_shapeColumns : List Int32) (v_row : List Int32) (v_column : List Int32) (v_below : List Int32) (v_face : List Int32) (v_worn : List Int32) (v_lastBend : List Int32) (v_tape : List Int32) (v_text : List Int32) (v_names : List Int32) (v_bends : List Int32) (v_high : List Int32) (v_to : List Int32) (v_pileSize : List Int32) (v_planLine : List Int32) (v_planWay : List Int32) (v_way1 : List Int32) (v_bestWay : List Int32) (v_order1 : List Int32) (v_placeIn : List Int32) (v_bodyKind : List Int32) (v_trace : List Int32) (v_shelf : List Int32) (v_many : List Int32) (v_items : List Int64) (v_carried : List Int64) (w_base : Int32) (w_at : Int32) (w_ends : Int32) (w_fault : Int32) (w_opened : Int32) (w_bentMany : Int32) (w_bentWrong : Int32) (w_moreWorn : Int32) (w_isFound : Bool) (w_bestWrong : Int32) (w_bestWorn : Int32) (w_bestMany : Int32) (w_shapeRows : List Int32) (w_shapeColumns : List Int32) (w_row : List Int32) (w_column : List Int32) (w_below : List Int32) (w_face : List Int32) (w_worn : List Int32) (w_lastBend : List Int32) (w_names : List Int32) (w_bends : List Int32) (w_high : List Int32) (w_to : List Int32) (w_pileSize : List Int32) (w_way1 : List Int32) (w_bestWay : List Int32), go x1 x2 x3 v_rowsOf v_columnsOf v_textMany v_base v_at v_ends v_fault v_opened v_bentMany v_bentWrong v_moreWorn v_wishedField v_isFound v_bestWrong v_bestWorn v_bestMany v_limit v_shapeRows v_shapeColumns v_row v_column v_below v_face v_worn v_lastBend v_tape v_text v_names v_bends v_high v_to v_pileSize v_way1 v_bestWay = some (w_base, w_at, w_ends, w_fault, w_opened, w_bentMany, w_bentWrong, w_moreWorn, w_isFound, w_bestWrong, w_bestWorn, w_bestMany, w_shapeRows, w_shapeColumns, w_row, w_column, w_below, w_face, w_worn, w_lastBend, w_names, w_bends, w_high, w_to, w_pileSize, w_way1, w_bestWay) → mm_Ct l yX9_goesDeeper cX9_goesDeeper 7 none dgo D (mm_T cI cL cS cH) [.ref (a 0), .int x1, .int x2, .int x3] (wd_X9 cI cL cS cH a v_keptMany v_done v_rowsOf v_columnsOf v_folded v_wronged v_tapeMany v_textMany v_base v_at v_ends v_fault v_opened v_bentMany v_bentWrong v_moreWorn v_planned v_allWrong v_allWorn v_z v_wishedField v_isFound v_bestWrong v_bestWorn v_bestMany v_soughtBy v_sought v_soughtAt v_foundMany v_foundOrder v_isKept v_imageRows v_imageColumns v_imageFolded v_imageWronged v_bodies v_ran v_ownKind v_ownNumber v_limit v_changeWas v_changeIs v_shapeRows v_shapeColumns v_row v_column v_below v_face v_worn v_lastBend v_tape v_text v_names v_bends v_high v_to v_pileSize v_planLine v_planWay v_way1 v_bestWay v_order1 v_placeIn v_bodyKind v_trace v_shelf v_many v_items v_carried) (wd_X9 cI cL cS cH a v_keptMany v_done v_rowsOf v_columnsOf v_folded v_wronged v_tapeMany v_textMany w_base w_at w_ends w_fault w_opened w_bentMany w_bentWrong w_moreWorn v_planned v_allWrong v_allWorn v_z v_wishedField w_isFound w_bestWrong w_bestWorn w_bestMany v_soughtBy v_sought v_soughtAt v_foundMany v_foundOrder v_isKept v_imageRows v_imageColumns v_imageFolded v_imageWronged v_bodies v_ran v_ownKind v_ownNumber v_limit v_changeWas v_changeIs w_shapeRows w_shapeColumns w_row w_column w_below w_face w_worn w_lastBend v_tape v_text w_names w_bends w_high w_to w_pileSize v_planLine v_planWay w_way1 w_bestWay v_order1 v_placeIn v_bodyKind v_trace v_shelf v_many v_items v_carried) none) (hE : 59 ≤ dgo) (hd : dgo + 1 ≤ d) (hf : fX9_goesDeepero N go x1 x2 x3 v_rowsOf v_columnsOf v_textMany v_base v_at v_ends v_fault v_opened v_bentMany v_bentWrong v_moreWorn v_wishedField v_isFound v_bestWrong v_bestWorn v_bestMany v_limit v_shapeRows v_shapeColumns v_row v_column v_below v_face v_worn v_lastBend v_tape v_text v_names v_bends v_high v_to v_pileSize v_way1 v_bestWay = some (w_base, w_at, w_ends, w_fault, w_opened, w_bentMany, w_bentWrong, w_moreWorn, w_isFound, w_bestWrong, w_bestWorn, w_bestMany, w_shapeRows, w_shapeColumns, w_row, w_column, w_below, w_face, w_worn, w_lastBend, w_names, w_bends, w_high, w_to, w_pileSize, w_way1, w_bestWay)) : mm_Ct l yX9_goesDeeper cX9_goesDeeper 7 none d D (mm_T cI cL cS cH) [.ref (a 0), .int x1, .int x2, .int x3] (wd_X9 cI cL cS cH a v_keptMany v_done v_rowsOf v_columnsOf v_folded v_wronged v_tapeMany v_textMany v_base v_at v_ends v_fault v_opened v_bentMany v_bentWrong v_moreWorn v_planned v_allWrong v_allWorn v_z v_wishedField v_isFound v_bestWrong v_bestWorn v_bestMany v_soughtBy v_sought v_soughtAt v_foundMany v_foundOrder v_isKept v_imageRows v_imageColumns v_imageFolded v_imageWronged v_bodies v_ran v_ownKind v_ownNumber v_limit v_changeWas v_changeIs v_shapeRows v_shapeColumns v_row v_column v_below v_face v_worn v_lastBend v_tape v_text v_names v_bends v_high v_to v_pileSize v_planLine v_planWay v_way1 v_bestWay v_order1 v_placeIn v_bodyKind v_trace v_shelf v_many v_items v_carried) (wd_X9 cI cL cS cH a v_keptMany v_done v_rowsOf v_columnsOf v_folded v_wronged v_tapeMany v_textMany w_base w_at w_ends w_fault w_opened w_bentMany w_bentWrong w_moreWorn v_planned v_allWrong v_allWorn v_z v_wishedField w_isFound w_bestWrong w_bestWorn w_bestMany v_soughtBy v_sought v_soughtAt v_foundMany v_foundOrder v_isKept v_imageRows v_imageColumns v_imageFolded v_imageWronged v_bodies v_ran v_ownKind v_ownNumber v_limit v_changeWas v_changeIs w_shapeRows w_shapeColumns w_row w_column w_below w_face w_worn w_lastBend v_tape v_text w_names w_bends w_high w_to w_pileSize v_planLine v_planWay w_way1 w_bestWay v_order1 v_placeIn v_bodyKind v_trace v_shelf v_many v_items v_carried) none := by
  refine mm_of (by decide) (Nat.le_of_ble_eq_true rfl) ?_
  intro p e s m args below meth c A H locs ls C0 hP hD hA hS hl
  have C0 : mm_Cx p s m args meth c RX9 cX9_goesDeeper 7 none D (mm_T cI cL cS cH) A := C0
  obtain ⟨hx, hb, hml, hown, hts, hr, hlocks, hK, hSt⟩ := id C0
  have hl : lv_has ls 7 [(0, .ref (a 0)), (1, .int x1), (2, .int x2), (3, .int x3)] := hl
  unfold fX9_goesDeepero at hf
  refine lv_iload_n hx hb dX9_goesDeeper_0 rfl (lv_at hl 1 rfl) ?_
  refine lv_iconst (v := 1) hx hb dX9_goesDeeper_1 (by decide) ?_
  refine lv_iadd hx hb dX9_goesDeeper_2 ?_
  refine lv_topi (fun y_1 ey_1 => ?_)
  have hf := mm_nms hf ey_1
  refine lv_istore (lv' := [(4, .int y_1), (0, .ref (a 0)), (1, .int x1), (2, .int x2), (3, .int x3)]) hx hb dX9_goesDeeper_3 hl (by decide) rfl (fun ls hl => ?_)
  refine lv_aload_n hx hb dX9_goesDeeper_5 rfl (lv_at hl 1 rfl) ?_
  refine mm_get C0 hP iw_X9 0 rfl rfl 7 (by decide) fl_X9_19 rfl dX9_goesDeeper_6 ?_
  refine lv_iload hx hb dX9_goesDeeper_9 (lv_at hl 0 rfl) ?_
  obtain ⟨h_2, hf⟩ := mm_cks hf
  refine mm_iald C0 hP 4 rfl h_2 dX9_goesDeeper_11 ?_
  refine lv_iconst (v := 1) hx hb dX9_goesDeeper_12 (by decide) ?_
  refine lv_icmp_ne (tgt := 35) hx hb dX9_goesDeeper_13 (by decide) (fun c_3 => ?_) (fun c_3 => ?_)
  · have hf := mm_in hf c_3
    exact tX9_goesDeeper_35 hgo hE hd C0 hA N  _ _ _ _ _ _ _ _ _ _ _ _ _ _ _ _ _ _ _ _ _ _ _ _ _ _ _ _ _ _ _ _ _ _ _ _ _ _ H locs ls hf hP hD hS (lv_sub hl [1, 2, 3, 4, 0] rfl)
  · have hf := mm_ip hf c_3
    refine lv_aload_n hx hb dX9_goesDeeper_16 rfl (lv_at hl 1 rfl) ?_
    refine mm_get C0 hP iw_X9 0 rfl rfl 8 (by decide) fl_X9_22 rfl dX9_goesDeeper_17 ?_
    refine lv_iload hx hb dX9_goesDeeper_20 (lv_at hl 0 rfl) ?_
    obtain ⟨h_4, hf⟩ := mm_cks hf
    refine mm_iald C0 hP 5 rfl h_4 dX9_goesDeeper_22 ?_
    refine lv_iconst (v := 1) hx hb dX9_goesDeeper_23 (by decide) ?_
    refine lv_icmp_ne (tgt := 35) hx hb dX9_goesDeeper_24 (by decide) (fun c_5 => ?_) (fun c_5 => ?_)
    · have hf := mm_in hf c_5
      exact tX9_goesDeeper_35 hgo hE hd C0 hA N  _ _ _ _ _ _ _ _ _ _ _ _ _ _ _ _ _ _ _ _ _ _ _ _ _ _ _ _ _ _ _ _ _ _ _ _ _ _ H locs ls hf hP hD hS (lv_sub hl [1, 2, 3, 4, 0] rfl)
    · have hf := mm_ip hf c_5
      refine lv_aload_n hx hb dX9_goesDeeper_27 rfl (lv_at hl 1 rfl) ?_
      refine lv_iload_n hx hb dX9_goesDeeper_28 rfl (lv_at hl 2 rfl) ?_
      refine lv_iload_n hx hb dX9_goesDeeper_29 rfl (lv_at hl 3 rfl) ?_
      refine lv_iload_n hx hb dX9_goesDeeper_30 rfl (lv_at hl 4 rfl) ?_
      obtain ⟨w_6, w_7, w_8, w_9, w_10, hc_11, hf⟩ := mm_bd5s hf
      refine mm_callVF (q0 := 0) (ci := 9) (rest := []) C0 lk_X9_320 (ctX9_ends1 (a := a) (d := d - 1) (by omega) hc_11) (by omega) rfl hl.1 rfl (mm_cat rfl) dX9_goesDeeper_31 hP hD hA hS rfl rfl (fun H locs hP hD hS => ?_)
      refine W.eq (g2 := F0 m 34 ls []) rfl ?_
      apply mm_sub27 hf
      exact mm_vret C0 hP hD hS dX9_goesDeeper_34

def fX9_goesDeeper (N : Nat) : Nat → Int32 → Int32 → Int32 → Int32 → Int32 → Int32 → Int32 → Int32 → Int32 → Int32 → Int32 → Int32 → Int32 → Int32 → Int32 → Bool → Int32 → Int32 → Int32 → List Int32 → List Int32 → List Int32 → List Int32 → List Int32 → List Int32 → List Int32 → List Int32 → List Int32 → List Int32 → List Int32 → List Int32 → List Int32 → List Int32 → List Int32 → List Int32 → List Int32 → List Int32 → Option (Int32 × Int32 × Int32 × Int32 × Int32 × Int32 × Int32 × Int32 × Bool × Int32 × Int32 × Int32 × List Int32 × List Int32 × List Int32 × List Int32 × List Int32 × List Int32 × List Int32 × List Int32 × List Int32 × List Int32 × List Int32 × List Int32 × List Int32 × List Int32 × List Int32)
  | 0 => fun _ _ _ _ _ _ _ _ _ _ _ _ _ _ _ _ _ _ _ _ _ _ _ _ _ _ _ _ _ _ _ _ _ _ _ _ _ => none
  | M + 1 => fX9_goesDeepero N (fX9_goesDeeper N M)
set_option maxHeartbeats 4000000 in
set_option maxRecDepth 100000 in
theorem ctX9_goesDeeper {l : Launch} {D : va_G} {cI cL cS cH : ClassId} {N : Nat} : ∀ (M d : Nat), 59 + 1 * M ≤ d → ∀ (a : Nat → Nat) (x1 : Int32) (x2 : Int32) (x3 : Int32) (v_keptMany : Int32) (v_done : Int32) (v_rowsOf : Int32) (v_columnsOf : Int32) (v_folded : Int32) (v_wronged : Int32) (v_tapeMany : Int32) (v_textMany : Int32) (v_base : Int32) (v_at : Int32) (v_ends : Int32) (v_fault : Int32) (v_opened : Int32) (v_bentMany : Int32) (v_bentWrong : Int32) (v_moreWorn : Int32) (v_planned : Int32) (v_allWrong : Int32) (v_allWorn : Int32) (v_z : Int32) (v_wishedField : Int32) (v_isFound : Bool) (v_bestWrong : Int32) (v_bestWorn : Int32) (v_bestMany : Int32) (v_soughtBy : Int32) (v_sought : Int32) (v_soughtAt : Int32) (v_foundMany : Int32) (v_foundOrder : Int32) (v_isKept : Bool) (v_imageRows : Int32) (v_imageColumns : Int32) (v_imageFolded : Int32) (v_imageWronged : Int32) (v_bodies : Int32) (v_ran : Int32) (v_ownKind : Int32) (v_ownNumber : Int32) (v_limit : List Int32) (v_changeWas : List Int32) (v_changeIs : List Int32) (v_shapeRows : List Int32) (v_shapeColumns : List Int32) (v_row : List Int32) (v_column : List Int32) (v_below : List Int32) (v_face : List Int32) (v_worn : List Int32) (v_lastBend : List Int32) (v_tape : List Int32) (v_text : List Int32) (v_names : List Int32) (v_bends : List Int32) (v_high : List Int32) (v_to : List Int32) (v_pileSize : List Int32) (v_planLine : List Int32) (v_planWay : List Int32) (v_way1 : List Int32) (v_bestWay : List Int32) (v_order1 : List Int32) (v_placeIn : List Int32) (v_bodyKind : List Int32) (v_trace : List Int32) (v_shelf : List Int32) (v_many : List Int32) (v_items : List Int64) (v_carried : List Int64) (w_base : Int32) (w_at : Int32) (w_ends : Int32) (w_fault : Int32) (w_opened : Int32) (w_bentMany : Int32) (w_bentWrong : Int32) (w_moreWorn : Int32) (w_isFound : Bool) (w_bestWrong : Int32) (w_bestWorn : Int32) (w_bestMany : Int32) (w_shapeRows : List Int32) (w_shapeColumns : List Int32) (w_row : List Int32) (w_column : List Int32) (w_below : List Int32) (w_face : List Int32) (w_worn : List Int32) (w_lastBend : List Int32) (w_names : List Int32) (w_bends : List Int32) (w_high : List Int32) (w_to : List Int32) (w_pileSize : List Int32) (w_way1 : List Int32) (w_bestWay : List Int32), fX9_goesDeeper N M x1 x2 x3 v_rowsOf v_columnsOf v_textMany v_base v_at v_ends v_fault v_opened v_bentMany v_bentWrong v_moreWorn v_wishedField v_isFound v_bestWrong v_bestWorn v_bestMany v_limit v_shapeRows v_shapeColumns v_row v_column v_below v_face v_worn v_lastBend v_tape v_text v_names v_bends v_high v_to v_pileSize v_way1 v_bestWay = some (w_base, w_at, w_ends, w_fault, w_opened, w_bentMany, w_bentWrong, w_moreWorn, w_isFound, w_bestWrong, w_bestWorn, w_bestMany, w_shapeRows, w_shapeColumns, w_row, w_column, w_below, w_face, w_worn, w_lastBend, w_names, w_bends, w_high, w_to, w_pileSize, w_way1, w_bestWay) → mm_Ct l yX9_goesDeeper cX9_goesDeeper 7 none d D (mm_T cI cL cS cH) [.ref (a 0), .int x1, .int x2, .int x3] (wd_X9 cI cL cS cH a v_keptMany v_done v_rowsOf v_columnsOf v_folded v_wronged v_tapeMany v_textMany v_base v_at v_ends v_fault v_opened v_bentMany v_bentWrong v_moreWorn v_planned v_allWrong v_allWorn v_z v_wishedField v_isFound v_bestWrong v_bestWorn v_bestMany v_soughtBy v_sought v_soughtAt v_foundMany v_foundOrder v_isKept v_imageRows v_imageColumns v_imageFolded v_imageWronged v_bodies v_ran v_ownKind v_ownNumber v_limit v_changeWas v_changeIs v_shapeRows v_shapeColumns v_row v_column v_below v_face v_worn v_lastBend v_tape v_text v_names v_bends v_high v_to v_pileSize v_planLine v_planWay v_way1 v_bestWay v_order1 v_placeIn v_bodyKind v_trace v_shelf v_many v_items v_carried) (wd_X9 cI cL cS cH a v_keptMany v_done v_rowsOf v_columnsOf v_folded v_wronged v_tapeMany v_textMany w_base w_at w_ends w_fault w_opened w_bentMany w_bentWrong w_moreWorn v_planned v_allWrong v_allWorn v_z v_wishedField w_isFound w_bestWrong w_bestWorn w_bestMany v_soughtBy v_sought v_soughtAt v_foundMany v_foundOrder v_isKept v_imageRows v_imageColumns v_imageFolded v_imageWronged v_bodies v_ran v_ownKind v_ownNumber v_limit v_changeWas v_changeIs w_shapeRows w_shapeColumns w_row w_column w_below w_face w_worn w_lastBend v_tape v_text w_names w_bends w_high w_to w_pileSize v_planLine v_planWay w_way1 w_bestWay v_order1 v_placeIn v_bodyKind v_trace v_shelf v_many v_items v_carried) none := by
  intro M
  induction M with
  | zero =>
    intro d hd a x1 x2 x3 v_keptMany v_done v_rowsOf v_columnsOf v_folded v_wronged v_tapeMany v_textMany v_base v_at v_ends v_fault v_opened v_bentMany v_bentWrong v_moreWorn v_planned v_allWrong v_allWorn v_z v_wishedField v_isFound v_bestWrong v_bestWorn v_bestMany v_soughtBy v_sought v_soughtAt v_foundMany v_foundOrder v_isKept v_imageRows v_imageColumns v_imageFolded v_imageWronged v_bodies v_ran v_ownKind v_ownNumber v_limit v_changeWas v_changeIs v_shapeRows v_shapeColumns v_row v_column v_below v_face v_worn v_lastBend v_tape v_text v_names v_bends v_high v_to v_pileSize v_planLine v_planWay v_way1 v_bestWay v_order1 v_placeIn v_bodyKind v_trace v_shelf v_many v_items v_carried w_base w_at w_ends w_fault w_opened w_bentMany w_bentWrong w_moreWorn w_isFound w_bestWrong w_bestWorn w_bestMany w_shapeRows w_shapeColumns w_row w_column w_below w_face w_worn w_lastBend w_names w_bends w_high w_to w_pileSize w_way1 w_bestWay hf
    cases (show none = some _ from hf)
  | succ M ih =>
    intro d hd a x1 x2 x3 v_keptMany v_done v_rowsOf v_columnsOf v_folded v_wronged v_tapeMany v_textMany v_base v_at v_ends v_fault v_opened v_bentMany v_bentWrong v_moreWorn v_planned v_allWrong v_allWorn v_z v_wishedField v_isFound v_bestWrong v_bestWorn v_bestMany v_soughtBy v_sought v_soughtAt v_foundMany v_foundOrder v_isKept v_imageRows v_imageColumns v_imageFolded v_imageWronged v_bodies v_ran v_ownKind v_ownNumber v_limit v_changeWas v_changeIs v_shapeRows v_shapeColumns v_row v_column v_below v_face v_worn v_lastBend v_tape v_text v_names v_bends v_high v_to v_pileSize v_planLine v_planWay v_way1 v_bestWay v_order1 v_placeIn v_bodyKind v_trace v_shelf v_many v_items v_carried w_base w_at w_ends w_fault w_opened w_bentMany w_bentWrong w_moreWorn w_isFound w_bestWrong w_bestWorn w_bestMany w_shapeRows w_shapeColumns w_row w_column w_below w_face w_worn w_lastBend w_names w_bends w_high w_to w_pileSize w_way1 w_bestWay hf
    exact ctX9_goesDeepero (N := N) (ih (59 + 1 * M) (Nat.le_refl _)) (Nat.le_add_right _ _) (by omega) hf

theorem nb_dX9_searches_0 : bls_w cX9_searches [(0, [42]), (1, [27]), (2, [181, 1, 48]), (5, [42]), (6, [3]), (7, [181, 1, 51]), (10, [42]), (11, [3]), (12, [181, 1, 58]), (15, [42]), (16, [3]), (17, [181, 1, 61])] := bls_of (by decide +kernel)
theorem dX9_searches_0 : decode cX9_searches 0 = .ok (.aload_n 0, 1) := op_42 nb_dX9_searches_0.1
theorem dX9_searches_1 : decode cX9_searches 1 = .ok (.iload_n 1, 1) := op_27 nb_dX9_searches_0.2.1
set_option maxRecDepth 100000 in
theorem dX9_searches_2 : decode cX9_searches 2 = .ok (.putfield 304, 3) := (op_181 nb_dX9_searches_0.2.2.1).trans rfl
theorem dX9_searches_5 : decode cX9_searches 5 = .ok (.aload_n 0, 1) := op_42 nb_dX9_searches_0.2.2.2.1
theorem dX9_searches_6 : decode cX9_searches 6 = .ok (.iconst 0, 1) := op_3 nb_dX9_searches_0.2.2.2.2.1
set_option maxRecDepth 100000 in
theorem dX9_searches_7 : decode cX9_searches 7 = .ok (.putfield 307, 3) := (op_181 nb_dX9_searches_0.2.2.2.2.2.1).trans rfl
theorem dX9_searches_10 : decode cX9_searches 10 = .ok (.aload_n 0, 1) := op_42 nb_dX9_searches_0.2.2.2.2.2.2.1
theorem dX9_searches_11 : decode cX9_searches 11 = .ok (.iconst 0, 1) := op_3 nb_dX9_searches_0.2.2.2.2.2.2.2.1
set_option maxRecDepth 100000 in
theorem dX9_searches_12 : decode cX9_searches 12 = .ok (.putfield 314, 3) := (op_181 nb_dX9_searches_0.2.2.2.2.2.2.2.2.1).trans rfl
theorem dX9_searches_15 : decode cX9_searches 15 = .ok (.aload_n 0, 1) := op_42 nb_dX9_searches_0.2.2.2.2.2.2.2.2.2.1
theorem dX9_searches_16 : decode cX9_searches 16 = .ok (.iconst 0, 1) := op_3 nb_dX9_searches_0.2.2.2.2.2.2.2.2.2.2.1
set_option maxRecDepth 100000 in
theorem dX9_searches_17 : decode cX9_searches 17 = .ok (.putfield 317, 3) := (op_181 nb_dX9_searches_0.2.2.2.2.2.2.2.2.2.2.2.1).trans rfl
theorem nb_dX9_searches_20 : bls_w cX9_searches [(20, [42]), (21, [3]), (22, [181, 1, 55]), (25, [42]), (26, [4]), (27, [182, 1, 23]), (30, [42]), (31, [3]), (32, [3]), (33, [3]), (34, [182, 1, 73]), (37, [177])] := bls_of (by decide +kernel)
theorem dX9_searches_20 : decode cX9_searches 20 = .ok (.aload_n 0, 1) := op_42 nb_dX9_searches_20.1
theorem dX9_searches_21 : decode cX9_searches 21 = .ok (.iconst 0, 1) := op_3 nb_dX9_searches_20.2.1
set_option maxRecDepth 100000 in
theorem dX9_searches_22 : decode cX9_searches 22 = .ok (.putfield 311, 3) := (op_181 nb_dX9_searches_20.2.2.1).trans rfl
theorem dX9_searches_25 : decode cX9_searches 25 = .ok (.aload_n 0, 1) := op_42 nb_dX9_searches_20.2.2.2.1
theorem dX9_searches_26 : decode cX9_searches 26 = .ok (.iconst 1, 1) := op_4 nb_dX9_searches_20.2.2.2.2.1
set_option maxRecDepth 100000 in
theorem dX9_searches_27 : decode cX9_searches 27 = .ok (.invokevirtual 279, 3) := (op_182 nb_dX9_searches_20.2.2.2.2.2.1).trans rfl
theorem dX9_searches_30 : decode cX9_searches 30 = .ok (.aload_n 0, 1) := op_42 nb_dX9_searches_20.2.2.2.2.2.2.1
theorem dX9_searches_31 : decode cX9_searches 31 = .ok (.iconst 0, 1) := op_3 nb_dX9_searches_20.2.2.2.2.2.2.2.1
theorem dX9_searches_32 : decode cX9_searches 32 = .ok (.iconst 0, 1) := op_3 nb_dX9_searches_20.2.2.2.2.2.2.2.2.1
theorem dX9_searches_33 : decode cX9_searches 33 = .ok (.iconst 0, 1) := op_3 nb_dX9_searches_20.2.2.2.2.2.2.2.2.2.1
set_option maxRecDepth 100000 in
theorem dX9_searches_34 : decode cX9_searches 34 = .ok (.invokevirtual 329, 3) := (op_182 nb_dX9_searches_20.2.2.2.2.2.2.2.2.2.2.1).trans rfl
theorem dX9_searches_37 : decode cX9_searches 37 = .ok (.return_, 1) := op_177 nb_dX9_searches_20.2.2.2.2.2.2.2.2.2.2.2.1
def fX9_searches (N : Nat) (x1 : Int32) (v_rowsOf : Int32) (v_columnsOf : Int32) (v_textMany : Int32) (v_base : Int32) (v_at : Int32) (v_ends : Int32) (v_fault : Int32) (v_opened : Int32) (v_bentMany : Int32) (v_bentWrong : Int32) (v_moreWorn : Int32) (v_wishedField : Int32) (v_isFound : Bool) (v_bestWrong : Int32) (v_bestWorn : Int32) (v_bestMany : Int32) (v_limit : List Int32) (v_shapeRows : List Int32) (v_shapeColumns : List Int32) (v_row : List Int32) (v_column : List Int32) (v_below : List Int32) (v_face : List Int32) (v_worn : List Int32) (v_lastBend : List Int32) (v_tape : List Int32) (v_text : List Int32) (v_names : List Int32) (v_bends : List Int32) (v_high : List Int32) (v_to : List Int32) (v_pileSize : List Int32) (v_way1 : List Int32) (v_bestWay : List Int32) : Option (Int32 × Int32 × Int32 × Int32 × Int32 × Int32 × Int32 × Int32 × Int32 × Bool × Int32 × Int32 × Int32 × List Int32 × List Int32 × List Int32 × List Int32 × List Int32 × List Int32 × List Int32 × List Int32 × List Int32 × List Int32 × List Int32 × List Int32 × List Int32 × List Int32 × List Int32) :=
    mm_bd8 (fX9_startsAt N (1 : Int32) v_rowsOf v_columnsOf v_shapeRows v_shapeColumns v_row v_column v_below v_face v_worn v_lastBend) (fun (w_1 : List Int32) (w_2 : List Int32) (w_3 : List Int32) (w_4 : List Int32) (w_5 : List Int32) (w_6 : List Int32) (w_7 : List Int32) (w_8 : List Int32) =>
    mm_bd27 (fX9_goesDeeper N 5 (0 : Int32) (0 : Int32) (0 : Int32) v_rowsOf v_columnsOf v_textMany v_base v_at v_ends v_fault v_opened v_bentMany v_bentWrong v_moreWorn x1 false (0 : Int32) (0 : Int32) (0 : Int32) v_limit w_1 w_2 w_3 w_4 w_5 w_6 w_7 w_8 v_tape v_text v_names v_bends v_high v_to v_pileSize v_way1 v_bestWay) (fun (w_10 : Int32) (w_11 : Int32) (w_12 : Int32) (w_13 : Int32) (w_14 : Int32) (w_15 : Int32) (w_16 : Int32) (w_17 : Int32) (w_18 : Bool) (w_19 : Int32) (w_20 : Int32) (w_21 : Int32) (w_22 : List Int32) (w_23 : List Int32) (w_24 : List Int32) (w_25 : List Int32) (w_26 : List Int32) (w_27 : List Int32) (w_28 : List Int32) (w_29 : List Int32) (w_30 : List Int32) (w_31 : List Int32) (w_32 : List Int32) (w_33 : List Int32) (w_34 : List Int32) (w_35 : List Int32) (w_36 : List Int32) =>
    some (w_10, w_11, w_12, w_13, w_14, w_15, w_16, w_17, x1, w_18, w_19, w_20, w_21, w_22, w_23, w_24, w_25, w_26, w_27, w_28, w_29, w_30, w_31, w_32, w_33, w_34, w_35, w_36)))

set_option maxHeartbeats 4000000 in
set_option maxRecDepth 100000 in
theorem ctX9_searches {l : Launch} {D : va_G} {cI cL cS cH : ClassId} {a : Nat → Nat} {x1 : Int32} {v_keptMany : Int32} {v_done : Int32} {v_rowsOf : Int32} {v_columnsOf : Int32} {v_folded : Int32} {v_wronged : Int32} {v_tapeMany : Int32} {v_textMany : Int32} {v_base : Int32} {v_at : Int32} {v_ends : Int32} {v_fault : Int32} {v_opened : Int32} {v_bentMany : Int32} {v_bentWrong : Int32} {v_moreWorn : Int32} {v_planned : Int32} {v_allWrong : Int32} {v_allWorn : Int32} {v_z : Int32} {v_wishedField : Int32} {v_isFound : Bool} {v_bestWrong : Int32} {v_bestWorn : Int32} {v_bestMany : Int32} {v_soughtBy : Int32} {v_sought : Int32} {v_soughtAt : Int32} {v_foundMany : Int32} {v_foundOrder : Int32} {v_isKept : Bool} {v_imageRows : Int32} {v_imageColumns : Int32} {v_imageFolded : Int32} {v_imageWronged : Int32} {v_bodies : Int32} {v_ran : Int32} {v_ownKind : Int32} {v_ownNumber : Int32} {v_limit : List Int32} {v_changeWas : List Int32} {v_changeIs : List Int32} {v_shapeRows : List Int32} {v_shapeColumns : List Int32} {v_row : List Int32} {v_column : List Int32} {v_below : List Int32} {v_face : List Int32} {v_worn : List Int32} {v_lastBend : List Int32} {v_tape : List Int32} {v_text : List Int32} {v_names : List Int32} {v_bends : List Int32} {v_high : List Int32} {v_to : List Int32} {v_pileSize : List Int32} {v_planLine : List Int32} {v_planWay : List Int32} {v_way1 : List Int32} {v_bestWay : List Int32} {v_order1 : List Int32} {v_placeIn : List Int32} {v_bodyKind : List Int32} {v_trace : List Int32} {v_shelf : List Int32} {v_many : List Int32} {v_items : List Int64} {v_carried : List Int64} {w_base : Int32} {w_at : Int32} {w_ends : Int32} {w_fault : Int32} {w_opened : Int32} {w_bentMany : Int32} {w_bentWrong : Int32} {w_moreWorn : Int32} {w_wishedField : Int32} {w_isFound : Bool} {w_bestWrong : Int32} {w_bestWorn : Int32} {w_bestMany : Int32} {w_shapeRows : List Int32} {w_shapeColumns : List Int32} {w_row : List Int32} {w_column : List Int32} {w_below : List Int32} {w_face : List Int32} {w_worn : List Int32} {w_lastBend : List Int32} {w_names : List Int32} {w_bends : List Int32} {w_high : List Int32} {w_to : List Int32} {w_pileSize : List Int32} {w_way1 : List Int32} {w_bestWay : List Int32} {N d : Nat} (hd : 65 ≤ d) (hf : fX9_searches N x1 v_rowsOf v_columnsOf v_textMany v_base v_at v_ends v_fault v_opened v_bentMany v_bentWrong v_moreWorn v_wishedField v_isFound v_bestWrong v_bestWorn v_bestMany v_limit v_shapeRows v_shapeColumns v_row v_column v_below v_face v_worn v_lastBend v_tape v_text v_names v_bends v_high v_to v_pileSize v_way1 v_bestWay = some (w_base, w_at, w_ends, w_fault, w_opened, w_bentMany, w_bentWrong, w_moreWorn, w_wishedField, w_isFound, w_bestWrong, w_bestWorn, w_bestMany, w_shapeRows, w_shapeColumns, w_row, w_column, w_below, w_face, w_worn, w_lastBend, w_names, w_bends, w_high, w_to, w_pileSize, w_way1, w_bestWay)) : mm_Ct l yX9_searches cX9_searches 2 none d D (mm_T cI cL cS cH) [.ref (a 0), .int x1] (wd_X9 cI cL cS cH a v_keptMany v_done v_rowsOf v_columnsOf v_folded v_wronged v_tapeMany v_textMany v_base v_at v_ends v_fault v_opened v_bentMany v_bentWrong v_moreWorn v_planned v_allWrong v_allWorn v_z v_wishedField v_isFound v_bestWrong v_bestWorn v_bestMany v_soughtBy v_sought v_soughtAt v_foundMany v_foundOrder v_isKept v_imageRows v_imageColumns v_imageFolded v_imageWronged v_bodies v_ran v_ownKind v_ownNumber v_limit v_changeWas v_changeIs v_shapeRows v_shapeColumns v_row v_column v_below v_face v_worn v_lastBend v_tape v_text v_names v_bends v_high v_to v_pileSize v_planLine v_planWay v_way1 v_bestWay v_order1 v_placeIn v_bodyKind v_trace v_shelf v_many v_items v_carried) (wd_X9 cI cL cS cH a v_keptMany v_done v_rowsOf v_columnsOf v_folded v_wronged v_tapeMany v_textMany w_base w_at w_ends w_fault w_opened w_bentMany w_bentWrong w_moreWorn v_planned v_allWrong v_allWorn v_z w_wishedField w_isFound w_bestWrong w_bestWorn w_bestMany v_soughtBy v_sought v_soughtAt v_foundMany v_foundOrder v_isKept v_imageRows v_imageColumns v_imageFolded v_imageWronged v_bodies v_ran v_ownKind v_ownNumber v_limit v_changeWas v_changeIs w_shapeRows w_shapeColumns w_row w_column w_below w_face w_worn w_lastBend v_tape v_text w_names w_bends w_high w_to w_pileSize v_planLine v_planWay w_way1 w_bestWay v_order1 v_placeIn v_bodyKind v_trace v_shelf v_many v_items v_carried) none := by
  refine mm_of (by decide) (Nat.le_of_ble_eq_true rfl) ?_
  intro p e s m args below meth c A H locs ls C0 hP hD hA hS hl
  have C0 : mm_Cx p s m args meth c RX9 cX9_searches 2 none D (mm_T cI cL cS cH) A := C0
  obtain ⟨hx, hb, hml, hown, hts, hr, hlocks, hK, hSt⟩ := id C0
  have hl : lv_has ls 2 [(0, .ref (a 0)), (1, .int x1)] := hl
  unfold fX9_searches at hf
  refine lv_aload_n hx hb dX9_searches_0 rfl (lv_at hl 0 rfl) ?_
  refine lv_iload_n hx hb dX9_searches_1 rfl (lv_at hl 1 rfl) ?_
  refine mm_put C0 hP hD hS iw_X9 tyX9 tyX9_ok nmX9 0 rfl rfl 40 (by decide) fl_X9_304 rfl rfl rfl (Nat.le_of_ble_eq_true rfl) dX9_searches_2 (w2 := (wd_X9 cI cL cS cH a v_keptMany v_done v_rowsOf v_columnsOf v_folded v_wronged v_tapeMany v_textMany v_base v_at v_ends v_fault v_opened v_bentMany v_bentWrong v_moreWorn v_planned v_allWrong v_allWorn v_z x1 v_isFound v_bestWrong v_bestWorn v_bestMany v_soughtBy v_sought v_soughtAt v_foundMany v_foundOrder v_isKept v_imageRows v_imageColumns v_imageFolded v_imageWronged v_bodies v_ran v_ownKind v_ownNumber v_limit v_changeWas v_changeIs v_shapeRows v_shapeColumns v_row v_column v_below v_face v_worn v_lastBend v_tape v_text v_names v_bends v_high v_to v_pileSize v_planLine v_planWay v_way1 v_bestWay v_order1 v_placeIn v_bodyKind v_trace v_shelf v_many v_items v_carried)) rfl (fun H locs hP hD hS => ?_)
  refine lv_aload_n hx hb dX9_searches_5 rfl (lv_at hl 0 rfl) ?_
  refine lv_iconst (v := 0) hx hb dX9_searches_6 (by decide) ?_
  refine mm_put C0 hP hD hS iw_X9 tyX9 tyX9_ok nmX9 0 rfl rfl 43 (by decide) fl_X9_307 rfl (v := .int (mm_b false)) mm_bn mm_bf (Nat.le_of_ble_eq_true rfl) dX9_searches_7 (w2 := (wd_X9 cI cL cS cH a v_keptMany v_done v_rowsOf v_columnsOf v_folded v_wronged v_tapeMany v_textMany v_base v_at v_ends v_fault v_opened v_bentMany v_bentWrong v_moreWorn v_planned v_allWrong v_allWorn v_z x1 false v_bestWrong v_bestWorn v_bestMany v_soughtBy v_sought v_soughtAt v_foundMany v_foundOrder v_isKept v_imageRows v_imageColumns v_imageFolded v_imageWronged v_bodies v_ran v_ownKind v_ownNumber v_limit v_changeWas v_changeIs v_shapeRows v_shapeColumns v_row v_column v_below v_face v_worn v_lastBend v_tape v_text v_names v_bends v_high v_to v_pileSize v_planLine v_planWay v_way1 v_bestWay v_order1 v_placeIn v_bodyKind v_trace v_shelf v_many v_items v_carried)) rfl (fun H locs hP hD hS => ?_)
  refine lv_aload_n hx hb dX9_searches_10 rfl (lv_at hl 0 rfl) ?_
  refine lv_iconst (v := 0) hx hb dX9_searches_11 (by decide) ?_
  refine mm_put C0 hP hD hS iw_X9 tyX9 tyX9_ok nmX9 0 rfl rfl 44 (by decide) fl_X9_314 rfl rfl rfl (Nat.le_of_ble_eq_true rfl) dX9_searches_12 (w2 := (wd_X9 cI cL cS cH a v_keptMany v_done v_rowsOf v_columnsOf v_folded v_wronged v_tapeMany v_textMany v_base v_at v_ends v_fault v_opened v_bentMany v_bentWrong v_moreWorn v_planned v_allWrong v_allWorn v_z x1 false (0 : Int32) v_bestWorn v_bestMany v_soughtBy v_sought v_soughtAt v_foundMany v_foundOrder v_isKept v_imageRows v_imageColumns v_imageFolded v_imageWronged v_bodies v_ran v_ownKind v_ownNumber v_limit v_changeWas v_changeIs v_shapeRows v_shapeColumns v_row v_column v_below v_face v_worn v_lastBend v_tape v_text v_names v_bends v_high v_to v_pileSize v_planLine v_planWay v_way1 v_bestWay v_order1 v_placeIn v_bodyKind v_trace v_shelf v_many v_items v_carried)) rfl (fun H locs hP hD hS => ?_)
  refine lv_aload_n hx hb dX9_searches_15 rfl (lv_at hl 0 rfl) ?_
  refine lv_iconst (v := 0) hx hb dX9_searches_16 (by decide) ?_
  refine mm_put C0 hP hD hS iw_X9 tyX9 tyX9_ok nmX9 0 rfl rfl 45 (by decide) fl_X9_317 rfl rfl rfl (Nat.le_of_ble_eq_true rfl) dX9_searches_17 (w2 := (wd_X9 cI cL cS cH a v_keptMany v_done v_rowsOf v_columnsOf v_folded v_wronged v_tapeMany v_textMany v_base v_at v_ends v_fault v_opened v_bentMany v_bentWrong v_moreWorn v_planned v_allWrong v_allWorn v_z x1 false (0 : Int32) (0 : Int32) v_bestMany v_soughtBy v_sought v_soughtAt v_foundMany v_foundOrder v_isKept v_imageRows v_imageColumns v_imageFolded v_imageWronged v_bodies v_ran v_ownKind v_ownNumber v_limit v_changeWas v_changeIs v_shapeRows v_shapeColumns v_row v_column v_below v_face v_worn v_lastBend v_tape v_text v_names v_bends v_high v_to v_pileSize v_planLine v_planWay v_way1 v_bestWay v_order1 v_placeIn v_bodyKind v_trace v_shelf v_many v_items v_carried)) rfl (fun H locs hP hD hS => ?_)
  refine lv_aload_n hx hb dX9_searches_20 rfl (lv_at hl 0 rfl) ?_
  refine lv_iconst (v := 0) hx hb dX9_searches_21 (by decide) ?_
  refine mm_put C0 hP hD hS iw_X9 tyX9 tyX9_ok nmX9 0 rfl rfl 46 (by decide) fl_X9_311 rfl rfl rfl (Nat.le_of_ble_eq_true rfl) dX9_searches_22 (w2 := (wd_X9 cI cL cS cH a v_keptMany v_done v_rowsOf v_columnsOf v_folded v_wronged v_tapeMany v_textMany v_base v_at v_ends v_fault v_opened v_bentMany v_bentWrong v_moreWorn v_planned v_allWrong v_allWorn v_z x1 false (0 : Int32) (0 : Int32) (0 : Int32) v_soughtBy v_sought v_soughtAt v_foundMany v_foundOrder v_isKept v_imageRows v_imageColumns v_imageFolded v_imageWronged v_bodies v_ran v_ownKind v_ownNumber v_limit v_changeWas v_changeIs v_shapeRows v_shapeColumns v_row v_column v_below v_face v_worn v_lastBend v_tape v_text v_names v_bends v_high v_to v_pileSize v_planLine v_planWay v_way1 v_bestWay v_order1 v_placeIn v_bodyKind v_trace v_shelf v_many v_items v_carried)) rfl (fun H locs hP hD hS => ?_)
  refine lv_aload_n hx hb dX9_searches_25 rfl (lv_at hl 0 rfl) ?_
  refine lv_iconst (v := 1) hx hb dX9_searches_26 (by decide) ?_
  refine mm_ct8 hf (fun w_1 w_2 w_3 w_4 w_5 w_6 w_7 w_8 hc_9 hf => ?_)
  refine mm_callVF (q0 := 0) (ci := 9) (rest := []) C0 lk_X9_279 (ctX9_startsAt (a := a) (d := d - 1) (by omega) hc_9) (by omega) rfl hl.1 rfl (mm_cat rfl) dX9_searches_27 hP hD hA hS rfl rfl (fun H locs hP hD hS => ?_)
  refine W.eq (g2 := F0 m 30 ls []) rfl ?_
  refine lv_aload_n hx hb dX9_searches_30 rfl (lv_at hl 0 rfl) ?_
  refine lv_iconst (v := 0) hx hb dX9_searches_31 (by decide) ?_
  refine lv_iconst (v := 0) hx hb dX9_searches_32 (by decide) ?_
  refine lv_iconst (v := 0) hx hb dX9_searches_33 (by decide) ?_
  refine mm_ct27 hf (fun w_10 w_11 w_12 w_13 w_14 w_15 w_16 w_17 w_18 w_19 w_20 w_21 w_22 w_23 w_24 w_25 w_26 w_27 w_28 w_29 w_30 w_31 w_32 w_33 w_34 w_35 w_36 hc_37 hf => ?_)
  refine mm_callVF (q0 := 0) (ci := 9) (rest := []) C0 lk_X9_329 (ctX9_goesDeeper (N := N) 5 (d - 1) (by omega) a _ _ _ _ _ _ _ _ _ _ _ _ _ _ _ _ _ _ _ _ _ _ _ _ _ _ _ _ _ _ _ _ _ _ _ _ _ _ _ _ _ _ _ _ _ _ _ _ _ _ _ _ _ _ _ _ _ _ _ _ _ _ _ _ _ _ _ _ _ _ _ _ _ _ _ _ _ _ _ _ _ _ _ _ _ _ _ _ _ _ _ _ _ _ _ _ _ _ _ hc_37) (by omega) rfl hl.1 rfl (mm_cat rfl) dX9_searches_34 hP hD hA hS rfl rfl (fun H locs hP hD hS => ?_)
  refine W.eq (g2 := F0 m 37 ls []) rfl ?_
  apply mm_sub28 hf
  exact mm_vret C0 hP hD hS dX9_searches_37
end
section
/-! reference: X9_wished, X9_right, X9_wind, X9_isStrip, X9_isOrder, X9_isInside, X9_areCrossed -/
theorem nb_dX9_wished_0 : bls_w cX9_wished [(0, [42]), (1, [27]), (2, [182, 0, 249]), (5, [153, 0, 8]), (8, [28]), (9, [2]), (10, [162, 0, 5]), (13, [2]), (14, [172]), (15, [42]), (16, [182, 0, 127]), (19, [16, 16])] := bls_of (by decide +kernel)
theorem dX9_wished_0 : decode cX9_wished 0 = .ok (.aload_n 0, 1) := op_42 nb_dX9_wished_0.1
theorem dX9_wished_1 : decode cX9_wished 1 = .ok (.iload_n 1, 1) := op_27 nb_dX9_wished_0.2.1
set_option maxRecDepth 100000 in
theorem dX9_wished_2 : decode cX9_wished 2 = .ok (.invokevirtual 249, 3) := (op_182 nb_dX9_wished_0.2.2.1).trans rfl
set_option maxRecDepth 100000 in
theorem dX9_wished_5 : decode cX9_wished 5 = .ok (.ifCond .eq 8, 3) := (op_153 nb_dX9_wished_0.2.2.2.1).trans rfl
theorem dX9_wished_8 : decode cX9_wished 8 = .ok (.iload_n 2, 1) := op_28 nb_dX9_wished_0.2.2.2.2.1
theorem dX9_wished_9 : decode cX9_wished 9 = .ok (.iconst (-1), 1) := op_2 nb_dX9_wished_0.2.2.2.2.2.1
set_option maxRecDepth 100000 in
theorem dX9_wished_10 : decode cX9_wished 10 = .ok (.if_icmp .ge 5, 3) := (op_162 nb_dX9_wished_0.2.2.2.2.2.2.1).trans rfl
theorem dX9_wished_13 : decode cX9_wished 13 = .ok (.iconst (-1), 1) := op_2 nb_dX9_wished_0.2.2.2.2.2.2.2.1
theorem dX9_wished_14 : decode cX9_wished 14 = .ok (.ireturn, 1) := op_172 nb_dX9_wished_0.2.2.2.2.2.2.2.2.1
theorem dX9_wished_15 : decode cX9_wished 15 = .ok (.aload_n 0, 1) := op_42 nb_dX9_wished_0.2.2.2.2.2.2.2.2.2.1
set_option maxRecDepth 100000 in
theorem dX9_wished_16 : decode cX9_wished 16 = .ok (.invokevirtual 127, 3) := (op_182 nb_dX9_wished_0.2.2.2.2.2.2.2.2.2.2.1).trans rfl
set_option maxRecDepth 100000 in
theorem dX9_wished_19 : decode cX9_wished 19 = .ok (.bipush 16, 2) := (op_16 nb_dX9_wished_0.2.2.2.2.2.2.2.2.2.2.2.1).trans rfl
theorem nb_dX9_wished_21 : bls_w cX9_wished [(21, [164, 0, 6]), (24, [16, 251]), (26, [172]), (27, [42]), (28, [27]), (29, [182, 1, 76]), (32, [42]), (33, [180, 1, 51]), (36, [154, 0, 6]), (39, [16, 254]), (41, [172]), (42, [28])] := bls_of (by decide +kernel)
set_option maxRecDepth 100000 in
theorem dX9_wished_21 : decode cX9_wished 21 = .ok (.if_icmp .le 6, 3) := (op_164 nb_dX9_wished_21.1).trans rfl
set_option maxRecDepth 100000 in
theorem dX9_wished_24 : decode cX9_wished 24 = .ok (.bipush (-5), 2) := (op_16 nb_dX9_wished_21.2.1).trans rfl
theorem dX9_wished_26 : decode cX9_wished 26 = .ok (.ireturn, 1) := op_172 nb_dX9_wished_21.2.2.1
theorem dX9_wished_27 : decode cX9_wished 27 = .ok (.aload_n 0, 1) := op_42 nb_dX9_wished_21.2.2.2.1
theorem dX9_wished_28 : decode cX9_wished 28 = .ok (.iload_n 1, 1) := op_27 nb_dX9_wished_21.2.2.2.2.1
set_option maxRecDepth 100000 in
theorem dX9_wished_29 : decode cX9_wished 29 = .ok (.invokevirtual 332, 3) := (op_182 nb_dX9_wished_21.2.2.2.2.2.1).trans rfl
theorem dX9_wished_32 : decode cX9_wished 32 = .ok (.aload_n 0, 1) := op_42 nb_dX9_wished_21.2.2.2.2.2.2.1
set_option maxRecDepth 100000 in
theorem dX9_wished_33 : decode cX9_wished 33 = .ok (.getfield 307, 3) := (op_180 nb_dX9_wished_21.2.2.2.2.2.2.2.1).trans rfl
set_option maxRecDepth 100000 in
theorem dX9_wished_36 : decode cX9_wished 36 = .ok (.ifCond .ne 6, 3) := (op_154 nb_dX9_wished_21.2.2.2.2.2.2.2.2.1).trans rfl
set_option maxRecDepth 100000 in
theorem dX9_wished_39 : decode cX9_wished 39 = .ok (.bipush (-2), 2) := (op_16 nb_dX9_wished_21.2.2.2.2.2.2.2.2.2.1).trans rfl
theorem dX9_wished_41 : decode cX9_wished 41 = .ok (.ireturn, 1) := op_172 nb_dX9_wished_21.2.2.2.2.2.2.2.2.2.2.1
theorem dX9_wished_42 : decode cX9_wished 42 = .ok (.iload_n 2, 1) := op_28 nb_dX9_wished_21.2.2.2.2.2.2.2.2.2.2.2.1
theorem nb_dX9_wished_43 : bls_w cX9_wished [(43, [2]), (44, [160, 0, 10]), (47, [42]), (48, [180, 1, 55]), (51, [167, 0, 21]), (54, [28]), (55, [42]), (56, [180, 1, 55]), (59, [162, 0, 12]), (62, [42]), (63, [180, 0, 73]), (66, [28])] := bls_of (by decide +kernel)
theorem dX9_wished_43 : decode cX9_wished 43 = .ok (.iconst (-1), 1) := op_2 nb_dX9_wished_43.1
set_option maxRecDepth 100000 in
theorem dX9_wished_44 : decode cX9_wished 44 = .ok (.if_icmp .ne 10, 3) := (op_160 nb_dX9_wished_43.2.1).trans rfl
theorem dX9_wished_47 : decode cX9_wished 47 = .ok (.aload_n 0, 1) := op_42 nb_dX9_wished_43.2.2.1
set_option maxRecDepth 100000 in
theorem dX9_wished_48 : decode cX9_wished 48 = .ok (.getfield 311, 3) := (op_180 nb_dX9_wished_43.2.2.2.1).trans rfl
set_option maxRecDepth 100000 in
theorem dX9_wished_51 : decode cX9_wished 51 = .ok (.goto 21, 3) := (op_167 nb_dX9_wished_43.2.2.2.2.1).trans rfl
theorem dX9_wished_54 : decode cX9_wished 54 = .ok (.iload_n 2, 1) := op_28 nb_dX9_wished_43.2.2.2.2.2.1
theorem dX9_wished_55 : decode cX9_wished 55 = .ok (.aload_n 0, 1) := op_42 nb_dX9_wished_43.2.2.2.2.2.2.1
set_option maxRecDepth 100000 in
theorem dX9_wished_56 : decode cX9_wished 56 = .ok (.getfield 311, 3) := (op_180 nb_dX9_wished_43.2.2.2.2.2.2.2.1).trans rfl
set_option maxRecDepth 100000 in
theorem dX9_wished_59 : decode cX9_wished 59 = .ok (.if_icmp .ge 12, 3) := (op_162 nb_dX9_wished_43.2.2.2.2.2.2.2.2.1).trans rfl
theorem dX9_wished_62 : decode cX9_wished 62 = .ok (.aload_n 0, 1) := op_42 nb_dX9_wished_43.2.2.2.2.2.2.2.2.2.1
set_option maxRecDepth 100000 in
theorem dX9_wished_63 : decode cX9_wished 63 = .ok (.getfield 73, 3) := (op_180 nb_dX9_wished_43.2.2.2.2.2.2.2.2.2.2.1).trans rfl
theorem dX9_wished_66 : decode cX9_wished 66 = .ok (.iload_n 2, 1) := op_28 nb_dX9_wished_43.2.2.2.2.2.2.2.2.2.2.2.1
theorem nb_dX9_wished_67 : bls_w cX9_wished [(67, [46]), (68, [167, 0, 4]), (71, [2]), (72, [172])] := bls_of (by decide +kernel)
theorem dX9_wished_67 : decode cX9_wished 67 = .ok (.iaload, 1) := op_46 nb_dX9_wished_67.1
set_option maxRecDepth 100000 in
theorem dX9_wished_68 : decode cX9_wished 68 = .ok (.goto 4, 3) := (op_167 nb_dX9_wished_67.2.1).trans rfl
theorem dX9_wished_71 : decode cX9_wished 71 = .ok (.iconst (-1), 1) := op_2 nb_dX9_wished_67.2.2.1
theorem dX9_wished_72 : decode cX9_wished 72 = .ok (.ireturn, 1) := op_172 nb_dX9_wished_67.2.2.2.1
def fX9_wished (N : Nat) (x1 : Int32) (x2 : Int32) (v_rowsOf : Int32) (v_columnsOf : Int32) (v_textMany : Int32) (v_base : Int32) (v_at : Int32) (v_ends : Int32) (v_fault : Int32) (v_opened : Int32) (v_bentMany : Int32) (v_bentWrong : Int32) (v_moreWorn : Int32) (v_wishedField : Int32) (v_isFound : Bool) (v_bestWrong : Int32) (v_bestWorn : Int32) (v_bestMany : Int32) (v_limit : List Int32) (v_shapeRows : List Int32) (v_shapeColumns : List Int32) (v_row : List Int32) (v_column : List Int32) (v_below : List Int32) (v_face : List Int32) (v_worn : List Int32) (v_lastBend : List Int32) (v_tape : List Int32) (v_text : List Int32) (v_names : List Int32) (v_bends : List Int32) (v_high : List Int32) (v_to : List Int32) (v_pileSize : List Int32) (v_way1 : List Int32) (v_bestWay : List Int32) : Option (Int32 × Int32 × Int32 × Int32 × Int32 × Int32 × Int32 × Int32 × Int32 × Int32 × Bool × Int32 × Int32 × Int32 × List Int32 × List Int32 × List Int32 × List Int32 × List Int32 × List Int32 × List Int32 × List Int32 × List Int32 × List Int32 × List Int32 × List Int32 × List Int32 × List Int32 × List Int32) :=
    mm_bd1 (fX9_isField N x1 v_rowsOf v_columnsOf) (fun (r_1 : Bool) =>
    if r_1 = false then
    (some ((-1 : Int32), v_base, v_at, v_ends, v_fault, v_opened, v_bentMany, v_bentWrong, v_moreWorn, v_wishedField, v_isFound, v_bestWrong, v_bestWorn, v_bestMany, v_shapeRows, v_shapeColumns, v_row, v_column, v_below, v_face, v_worn, v_lastBend, v_names, v_bends, v_high, v_to, v_pileSize, v_way1, v_bestWay))
    else (if (-1 : Int32) ≤ x2 then
    (mm_bd1 (fX9_fields N v_rowsOf v_columnsOf) (fun (r_5 : Int32) =>
    if r_5 ≤ (16 : Int32) then
    (mm_bd28 (fX9_searches N x1 v_rowsOf v_columnsOf v_textMany v_base v_at v_ends v_fault v_opened v_bentMany v_bentWrong v_moreWorn v_wishedField v_isFound v_bestWrong v_bestWorn v_bestMany v_limit v_shapeRows v_shapeColumns v_row v_column v_below v_face v_worn v_lastBend v_tape v_text v_names v_bends v_high v_to v_pileSize v_way1 v_bestWay) (fun (w_8 : Int32) (w_9 : Int32) (w_10 : Int32) (w_11 : Int32) (w_12 : Int32) (w_13 : Int32) (w_14 : Int32) (w_15 : Int32) (w_16 : Int32) (w_17 : Bool) (w_18 : Int32) (w_19 : Int32) (w_20 : Int32) (w_21 : List Int32) (w_22 : List Int32) (w_23 : List Int32) (w_24 : List Int32) (w_25 : List Int32) (w_26 : List Int32) (w_27 : List Int32) (w_28 : List Int32) (w_29 : List Int32) (w_30 : List Int32) (w_31 : List Int32) (w_32 : List Int32) (w_33 : List Int32) (w_34 : List Int32) (w_35 : List Int32) =>
    if w_17 = false then
    (some ((-2 : Int32), w_8, w_9, w_10, w_11, w_12, w_13, w_14, w_15, w_16, w_17, w_18, w_19, w_20, w_21, w_22, w_23, w_24, w_25, w_26, w_27, w_28, w_29, w_30, w_31, w_32, w_33, w_34, w_35))
    else (if x2 = (-1 : Int32) then
    (some (w_20, w_8, w_9, w_10, w_11, w_12, w_13, w_14, w_15, w_16, w_17, w_18, w_19, w_20, w_21, w_22, w_23, w_24, w_25, w_26, w_27, w_28, w_29, w_30, w_31, w_32, w_33, w_34, w_35))
    else (if w_20 ≤ x2 then
    (some ((-1 : Int32), w_8, w_9, w_10, w_11, w_12, w_13, w_14, w_15, w_16, w_17, w_18, w_19, w_20, w_21, w_22, w_23, w_24, w_25, w_26, w_27, w_28, w_29, w_30, w_31, w_32, w_33, w_34, w_35))
    else (mm_ck (mm_inb x2 w_35.length) (some ((mm_ig w_35 x2), w_8, w_9, w_10, w_11, w_12, w_13, w_14, w_15, w_16, w_17, w_18, w_19, w_20, w_21, w_22, w_23, w_24, w_25, w_26, w_27, w_28, w_29, w_30, w_31, w_32, w_33, w_34, w_35)))))))
    else (some ((-5 : Int32), v_base, v_at, v_ends, v_fault, v_opened, v_bentMany, v_bentWrong, v_moreWorn, v_wishedField, v_isFound, v_bestWrong, v_bestWorn, v_bestMany, v_shapeRows, v_shapeColumns, v_row, v_column, v_below, v_face, v_worn, v_lastBend, v_names, v_bends, v_high, v_to, v_pileSize, v_way1, v_bestWay))))
    else (some ((-1 : Int32), v_base, v_at, v_ends, v_fault, v_opened, v_bentMany, v_bentWrong, v_moreWorn, v_wishedField, v_isFound, v_bestWrong, v_bestWorn, v_bestMany, v_shapeRows, v_shapeColumns, v_row, v_column, v_below, v_face, v_worn, v_lastBend, v_names, v_bends, v_high, v_to, v_pileSize, v_way1, v_bestWay))))

set_option maxHeartbeats 4000000 in
set_option maxRecDepth 100000 in
theorem ctX9_wished {l : Launch} {D : va_G} {cI cL cS cH : ClassId} {a : Nat → Nat} {x1 : Int32} {x2 : Int32} {v_keptMany : Int32} {v_done : Int32} {v_rowsOf : Int32} {v_columnsOf : Int32} {v_folded : Int32} {v_wronged : Int32} {v_tapeMany : Int32} {v_textMany : Int32} {v_base : Int32} {v_at : Int32} {v_ends : Int32} {v_fault : Int32} {v_opened : Int32} {v_bentMany : Int32} {v_bentWrong : Int32} {v_moreWorn : Int32} {v_planned : Int32} {v_allWrong : Int32} {v_allWorn : Int32} {v_z : Int32} {v_wishedField : Int32} {v_isFound : Bool} {v_bestWrong : Int32} {v_bestWorn : Int32} {v_bestMany : Int32} {v_soughtBy : Int32} {v_sought : Int32} {v_soughtAt : Int32} {v_foundMany : Int32} {v_foundOrder : Int32} {v_isKept : Bool} {v_imageRows : Int32} {v_imageColumns : Int32} {v_imageFolded : Int32} {v_imageWronged : Int32} {v_bodies : Int32} {v_ran : Int32} {v_ownKind : Int32} {v_ownNumber : Int32} {v_limit : List Int32} {v_changeWas : List Int32} {v_changeIs : List Int32} {v_shapeRows : List Int32} {v_shapeColumns : List Int32} {v_row : List Int32} {v_column : List Int32} {v_below : List Int32} {v_face : List Int32} {v_worn : List Int32} {v_lastBend : List Int32} {v_tape : List Int32} {v_text : List Int32} {v_names : List Int32} {v_bends : List Int32} {v_high : List Int32} {v_to : List Int32} {v_pileSize : List Int32} {v_planLine : List Int32} {v_planWay : List Int32} {v_way1 : List Int32} {v_bestWay : List Int32} {v_order1 : List Int32} {v_placeIn : List Int32} {v_bodyKind : List Int32} {v_trace : List Int32} {v_shelf : List Int32} {v_many : List Int32} {v_items : List Int64} {v_carried : List Int64} {r : Int32} {w_base : Int32} {w_at : Int32} {w_ends : Int32} {w_fault : Int32} {w_opened : Int32} {w_bentMany : Int32} {w_bentWrong : Int32} {w_moreWorn : Int32} {w_wishedField : Int32} {w_isFound : Bool} {w_bestWrong : Int32} {w_bestWorn : Int32} {w_bestMany : Int32} {w_shapeRows : List Int32} {w_shapeColumns : List Int32} {w_row : List Int32} {w_column : List Int32} {w_below : List Int32} {w_face : List Int32} {w_worn : List Int32} {w_lastBend : List Int32} {w_names : List Int32} {w_bends : List Int32} {w_high : List Int32} {w_to : List Int32} {w_pileSize : List Int32} {w_way1 : List Int32} {w_bestWay : List Int32} {N d : Nat} (hd : 66 ≤ d) (hf : fX9_wished N x1 x2 v_rowsOf v_columnsOf v_textMany v_base v_at v_ends v_fault v_opened v_bentMany v_bentWrong v_moreWorn v_wishedField v_isFound v_bestWrong v_bestWorn v_bestMany v_limit v_shapeRows v_shapeColumns v_row v_column v_below v_face v_worn v_lastBend v_tape v_text v_names v_bends v_high v_to v_pileSize v_way1 v_bestWay = some (r, w_base, w_at, w_ends, w_fault, w_opened, w_bentMany, w_bentWrong, w_moreWorn, w_wishedField, w_isFound, w_bestWrong, w_bestWorn, w_bestMany, w_shapeRows, w_shapeColumns, w_row, w_column, w_below, w_face, w_worn, w_lastBend, w_names, w_bends, w_high, w_to, w_pileSize, w_way1, w_bestWay)) : mm_Ct l yX9_wished cX9_wished 3 (some .int) d D (mm_T cI cL cS cH) [.ref (a 0), .int x1, .int x2] (wd_X9 cI cL cS cH a v_keptMany v_done v_rowsOf v_columnsOf v_folded v_wronged v_tapeMany v_textMany v_base v_at v_ends v_fault v_opened v_bentMany v_bentWrong v_moreWorn v_planned v_allWrong v_allWorn v_z v_wishedField v_isFound v_bestWrong v_bestWorn v_bestMany v_soughtBy v_sought v_soughtAt v_foundMany v_foundOrder v_isKept v_imageRows v_imageColumns v_imageFolded v_imageWronged v_bodies v_ran v_ownKind v_ownNumber v_limit v_changeWas v_changeIs v_shapeRows v_shapeColumns v_row v_column v_below v_face v_worn v_lastBend v_tape v_text v_names v_bends v_high v_to v_pileSize v_planLine v_planWay v_way1 v_bestWay v_order1 v_placeIn v_bodyKind v_trace v_shelf v_many v_items v_carried) (wd_X9 cI cL cS cH a v_keptMany v_done v_rowsOf v_columnsOf v_folded v_wronged v_tapeMany v_textMany w_base w_at w_ends w_fault w_opened w_bentMany w_bentWrong w_moreWorn v_planned v_allWrong v_allWorn v_z w_wishedField w_isFound w_bestWrong w_bestWorn w_bestMany v_soughtBy v_sought v_soughtAt v_foundMany v_foundOrder v_isKept v_imageRows v_imageColumns v_imageFolded v_imageWronged v_bodies v_ran v_ownKind v_ownNumber v_limit v_changeWas v_changeIs w_shapeRows w_shapeColumns w_row w_column w_below w_face w_worn w_lastBend v_tape v_text w_names w_bends w_high w_to w_pileSize v_planLine v_planWay w_way1 w_bestWay v_order1 v_placeIn v_bodyKind v_trace v_shelf v_many v_items v_carried) (some (.int r)) := by
  refine mm_of (by decide) (Nat.le_of_ble_eq_true rfl) ?_
  intro p e s m args below meth c A H locs ls C0 hP hD hA hS hl
  have C0 : mm_Cx p s m args meth c RX9 cX9_wished 3 (some .int) D (mm_T cI cL cS cH) A := C0
  obtain ⟨hx, hb, hml, hown, hts, hr, hlocks, hK, hSt⟩ := id C0
  have hl : lv_has ls 3 [(0, .ref (a 0)), (1, .int x1), (2, .int x2)] := hl
  unfold fX9_wished at hf
  refine lv_aload_n hx hb dX9_wished_0 rfl (lv_at hl 0 rfl) ?_
  refine lv_iload_n hx hb dX9_wished_1 rfl (lv_at hl 1 rfl) ?_
  obtain ⟨r_1, hc_2, hf⟩ := mm_bd1s hf
  refine mm_callVF (q0 := 0) (ci := 9) (rest := []) C0 lk_X9_249 (ctX9_isField (a := a) (d := d - 1) (by omega) hc_2) (by omega) rfl hl.1 rfl (mm_cat rfl) dX9_wished_2 hP hD hA hS rfl rfl (fun H locs hP hD hS => ?_)
  refine W.eq (g2 := F0 m 5 ls [.int (mm_b r_1)]) rfl ?_
  refine lv_if_eq (tgt := 13) hx hb dX9_wished_5 (by decide) (fun c_3 => ?_) (fun c_3 => ?_)
  · have hf := mm_ip hf (mm_b0 c_3)
    refine lv_iconst (v := -1) hx hb dX9_wished_13 (by decide) ?_
    apply mm_sub29 hf
    exact mm_iret C0 hP hD hS dX9_wished_14
  · have hf := mm_in hf (mm_b1 c_3)
    refine lv_iload_n hx hb dX9_wished_8 rfl (lv_at hl 2 rfl) ?_
    refine lv_iconst (v := -1) hx hb dX9_wished_9 (by decide) ?_
    refine lv_icmp_ge (tgt := 15) hx hb dX9_wished_10 (by decide) (fun c_4 => ?_) (fun c_4 => ?_)
    · have hf := mm_ip hf c_4
      refine lv_aload_n hx hb dX9_wished_15 rfl (lv_at hl 0 rfl) ?_
      obtain ⟨r_5, hc_6, hf⟩ := mm_bd1s hf
      refine mm_callVF (q0 := 0) (ci := 9) (rest := []) C0 lk_X9_127 (ctX9_fields (a := a) (d := d - 1) (by omega) hc_6) (by omega) rfl hl.1 rfl (mm_cat rfl) dX9_wished_16 hP hD hA hS rfl rfl (fun H locs hP hD hS => ?_)
      refine W.eq (g2 := F0 m 19 ls [.int r_5]) rfl ?_
      refine lv_bipush (v := 16) hx hb dX9_wished_19 (by decide) ?_
      refine lv_icmp_le (tgt := 27) hx hb dX9_wished_21 (by decide) (fun c_7 => ?_) (fun c_7 => ?_)
      · have hf := mm_ip hf c_7
        refine lv_aload_n hx hb dX9_wished_27 rfl (lv_at hl 0 rfl) ?_
        refine lv_iload_n hx hb dX9_wished_28 rfl (lv_at hl 1 rfl) ?_
        refine mm_ct28 hf (fun w_8 w_9 w_10 w_11 w_12 w_13 w_14 w_15 w_16 w_17 w_18 w_19 w_20 w_21 w_22 w_23 w_24 w_25 w_26 w_27 w_28 w_29 w_30 w_31 w_32 w_33 w_34 w_35 hc_36 hf => ?_)
        refine mm_callVF (q0 := 0) (ci := 9) (rest := []) C0 lk_X9_332 (ctX9_searches (a := a) (d := d - 1) (by omega) hc_36) (by omega) rfl hl.1 rfl (mm_cat rfl) dX9_wished_29 hP hD hA hS rfl rfl (fun H locs hP hD hS => ?_)
        refine W.eq (g2 := F0 m 32 ls []) rfl ?_
        refine lv_aload_n hx hb dX9_wished_32 rfl (lv_at hl 0 rfl) ?_
        refine mm_get C0 hP iw_X9 0 rfl rfl 43 (by decide) fl_X9_307 rfl dX9_wished_33 ?_
        refine lv_if_ne (tgt := 42) hx hb dX9_wished_36 (by decide) (fun c_37 => ?_) (fun c_37 => ?_)
        · have hf := mm_in hf (mm_b1 c_37)
          refine lv_iload_n hx hb dX9_wished_42 rfl (lv_at hl 2 rfl) ?_
          refine lv_iconst (v := -1) hx hb dX9_wished_43 (by decide) ?_
          refine lv_icmp_ne (tgt := 54) hx hb dX9_wished_44 (by decide) (fun c_38 => ?_) (fun c_38 => ?_)
          · have hf := mm_in hf c_38
            refine lv_iload_n hx hb dX9_wished_54 rfl (lv_at hl 2 rfl) ?_
            refine lv_aload_n hx hb dX9_wished_55 rfl (lv_at hl 0 rfl) ?_
            refine mm_get C0 hP iw_X9 0 rfl rfl 46 (by decide) fl_X9_311 rfl dX9_wished_56 ?_
            refine lv_icmp_ge (tgt := 71) hx hb dX9_wished_59 (by decide) (fun c_39 => ?_) (fun c_39 => ?_)
            · have hf := mm_ip hf c_39
              refine lv_iconst (v := -1) hx hb dX9_wished_71 (by decide) ?_
              apply mm_sub29 hf
              exact mm_iret C0 hP hD hS dX9_wished_72
            · have hf := mm_in hf c_39
              refine lv_aload_n hx hb dX9_wished_62 rfl (lv_at hl 0 rfl) ?_
              refine mm_get C0 hP iw_X9 0 rfl rfl 42 (by decide) fl_X9_73 rfl dX9_wished_63 ?_
              refine lv_iload_n hx hb dX9_wished_66 rfl (lv_at hl 2 rfl) ?_
              obtain ⟨h_40, hf⟩ := mm_cks hf
              refine mm_iald C0 hP 22 rfl h_40 dX9_wished_67 ?_
              refine lv_goto (tgt := 72) hx hb dX9_wished_68 (by decide) ?_
              apply mm_sub29 hf
              exact mm_iret C0 hP hD hS dX9_wished_72
          · have hf := mm_ip hf c_38
            refine lv_aload_n hx hb dX9_wished_47 rfl (lv_at hl 0 rfl) ?_
            refine mm_get C0 hP iw_X9 0 rfl rfl 46 (by decide) fl_X9_311 rfl dX9_wished_48 ?_
            refine lv_goto (tgt := 72) hx hb dX9_wished_51 (by decide) ?_
            apply mm_sub29 hf
            exact mm_iret C0 hP hD hS dX9_wished_72
        · have hf := mm_ip hf (mm_b0 c_37)
          refine lv_bipush (v := -2) hx hb dX9_wished_39 (by decide) ?_
          apply mm_sub29 hf
          exact mm_iret C0 hP hD hS dX9_wished_41
      · have hf := mm_in hf c_7
        refine lv_bipush (v := -5) hx hb dX9_wished_24 (by decide) ?_
        apply mm_sub29 hf
        exact mm_iret C0 hP hD hS dX9_wished_26
    · have hf := mm_in hf c_4
      refine lv_iconst (v := -1) hx hb dX9_wished_13 (by decide) ?_
      apply mm_sub29 hf
      exact mm_iret C0 hP hD hS dX9_wished_14

theorem nb_dX9_right_0 : bls_w cX9_right [(0, [27]), (1, [16, 253]), (3, [162, 0, 5]), (6, [2]), (7, [172]), (8, [42]), (9, [182, 0, 127]), (12, [16, 16]), (14, [164, 0, 6]), (17, [16, 251]), (19, [172]), (20, [42])] := bls_of (by decide +kernel)
theorem dX9_right_0 : decode cX9_right 0 = .ok (.iload_n 1, 1) := op_27 nb_dX9_right_0.1
set_option maxRecDepth 100000 in
theorem dX9_right_1 : decode cX9_right 1 = .ok (.bipush (-3), 2) := (op_16 nb_dX9_right_0.2.1).trans rfl
set_option maxRecDepth 100000 in
theorem dX9_right_3 : decode cX9_right 3 = .ok (.if_icmp .ge 5, 3) := (op_162 nb_dX9_right_0.2.2.1).trans rfl
theorem dX9_right_6 : decode cX9_right 6 = .ok (.iconst (-1), 1) := op_2 nb_dX9_right_0.2.2.2.1
theorem dX9_right_7 : decode cX9_right 7 = .ok (.ireturn, 1) := op_172 nb_dX9_right_0.2.2.2.2.1
theorem dX9_right_8 : decode cX9_right 8 = .ok (.aload_n 0, 1) := op_42 nb_dX9_right_0.2.2.2.2.2.1
set_option maxRecDepth 100000 in
theorem dX9_right_9 : decode cX9_right 9 = .ok (.invokevirtual 127, 3) := (op_182 nb_dX9_right_0.2.2.2.2.2.2.1).trans rfl
set_option maxRecDepth 100000 in
theorem dX9_right_12 : decode cX9_right 12 = .ok (.bipush 16, 2) := (op_16 nb_dX9_right_0.2.2.2.2.2.2.2.1).trans rfl
set_option maxRecDepth 100000 in
theorem dX9_right_14 : decode cX9_right 14 = .ok (.if_icmp .le 6, 3) := (op_164 nb_dX9_right_0.2.2.2.2.2.2.2.2.1).trans rfl
set_option maxRecDepth 100000 in
theorem dX9_right_17 : decode cX9_right 17 = .ok (.bipush (-5), 2) := (op_16 nb_dX9_right_0.2.2.2.2.2.2.2.2.2.1).trans rfl
theorem dX9_right_19 : decode cX9_right 19 = .ok (.ireturn, 1) := op_172 nb_dX9_right_0.2.2.2.2.2.2.2.2.2.2.1
theorem dX9_right_20 : decode cX9_right 20 = .ok (.aload_n 0, 1) := op_42 nb_dX9_right_0.2.2.2.2.2.2.2.2.2.2.2.1
theorem dX9_right_36 : decode cX9_right 36 = .ok (.tableswitch 43 (-3) (-1) #[38, 33, 28], 28) := by decide +kernel
theorem nb_dX9_right_21 : bls_w cX9_right [(21, [2]), (22, [182, 1, 76]), (25, [42]), (26, [180, 1, 51]), (29, [154, 0, 6]), (32, [16, 254]), (34, [172]), (35, [27]), (64, [42]), (65, [180, 1, 58]), (68, [172]), (69, [42])] := bls_of (by decide +kernel)
theorem dX9_right_21 : decode cX9_right 21 = .ok (.iconst (-1), 1) := op_2 nb_dX9_right_21.1
set_option maxRecDepth 100000 in
theorem dX9_right_22 : decode cX9_right 22 = .ok (.invokevirtual 332, 3) := (op_182 nb_dX9_right_21.2.1).trans rfl
theorem dX9_right_25 : decode cX9_right 25 = .ok (.aload_n 0, 1) := op_42 nb_dX9_right_21.2.2.1
set_option maxRecDepth 100000 in
theorem dX9_right_26 : decode cX9_right 26 = .ok (.getfield 307, 3) := (op_180 nb_dX9_right_21.2.2.2.1).trans rfl
set_option maxRecDepth 100000 in
theorem dX9_right_29 : decode cX9_right 29 = .ok (.ifCond .ne 6, 3) := (op_154 nb_dX9_right_21.2.2.2.2.1).trans rfl
set_option maxRecDepth 100000 in
theorem dX9_right_32 : decode cX9_right 32 = .ok (.bipush (-2), 2) := (op_16 nb_dX9_right_21.2.2.2.2.2.1).trans rfl
theorem dX9_right_34 : decode cX9_right 34 = .ok (.ireturn, 1) := op_172 nb_dX9_right_21.2.2.2.2.2.2.1
theorem dX9_right_35 : decode cX9_right 35 = .ok (.iload_n 1, 1) := op_27 nb_dX9_right_21.2.2.2.2.2.2.2.1
theorem dX9_right_64 : decode cX9_right 64 = .ok (.aload_n 0, 1) := op_42 nb_dX9_right_21.2.2.2.2.2.2.2.2.1
set_option maxRecDepth 100000 in
theorem dX9_right_65 : decode cX9_right 65 = .ok (.getfield 314, 3) := (op_180 nb_dX9_right_21.2.2.2.2.2.2.2.2.2.1).trans rfl
theorem dX9_right_68 : decode cX9_right 68 = .ok (.ireturn, 1) := op_172 nb_dX9_right_21.2.2.2.2.2.2.2.2.2.2.1
theorem dX9_right_69 : decode cX9_right 69 = .ok (.aload_n 0, 1) := op_42 nb_dX9_right_21.2.2.2.2.2.2.2.2.2.2.2.1
theorem nb_dX9_right_70 : bls_w cX9_right [(70, [180, 1, 61]), (73, [172]), (74, [42]), (75, [180, 1, 55]), (78, [172]), (79, [27]), (80, [42]), (81, [180, 1, 55]), (84, [162, 0, 12]), (87, [42]), (88, [180, 0, 73]), (91, [27])] := bls_of (by decide +kernel)
set_option maxRecDepth 100000 in
theorem dX9_right_70 : decode cX9_right 70 = .ok (.getfield 317, 3) := (op_180 nb_dX9_right_70.1).trans rfl
theorem dX9_right_73 : decode cX9_right 73 = .ok (.ireturn, 1) := op_172 nb_dX9_right_70.2.1
theorem dX9_right_74 : decode cX9_right 74 = .ok (.aload_n 0, 1) := op_42 nb_dX9_right_70.2.2.1
set_option maxRecDepth 100000 in
theorem dX9_right_75 : decode cX9_right 75 = .ok (.getfield 311, 3) := (op_180 nb_dX9_right_70.2.2.2.1).trans rfl
theorem dX9_right_78 : decode cX9_right 78 = .ok (.ireturn, 1) := op_172 nb_dX9_right_70.2.2.2.2.1
theorem dX9_right_79 : decode cX9_right 79 = .ok (.iload_n 1, 1) := op_27 nb_dX9_right_70.2.2.2.2.2.1
theorem dX9_right_80 : decode cX9_right 80 = .ok (.aload_n 0, 1) := op_42 nb_dX9_right_70.2.2.2.2.2.2.1
set_option maxRecDepth 100000 in
theorem dX9_right_81 : decode cX9_right 81 = .ok (.getfield 311, 3) := (op_180 nb_dX9_right_70.2.2.2.2.2.2.2.1).trans rfl
set_option maxRecDepth 100000 in
theorem dX9_right_84 : decode cX9_right 84 = .ok (.if_icmp .ge 12, 3) := (op_162 nb_dX9_right_70.2.2.2.2.2.2.2.2.1).trans rfl
theorem dX9_right_87 : decode cX9_right 87 = .ok (.aload_n 0, 1) := op_42 nb_dX9_right_70.2.2.2.2.2.2.2.2.2.1
set_option maxRecDepth 100000 in
theorem dX9_right_88 : decode cX9_right 88 = .ok (.getfield 73, 3) := (op_180 nb_dX9_right_70.2.2.2.2.2.2.2.2.2.2.1).trans rfl
theorem dX9_right_91 : decode cX9_right 91 = .ok (.iload_n 1, 1) := op_27 nb_dX9_right_70.2.2.2.2.2.2.2.2.2.2.2.1
theorem nb_dX9_right_92 : bls_w cX9_right [(92, [46]), (93, [167, 0, 4]), (96, [2]), (97, [172])] := bls_of (by decide +kernel)
theorem dX9_right_92 : decode cX9_right 92 = .ok (.iaload, 1) := op_46 nb_dX9_right_92.1
set_option maxRecDepth 100000 in
theorem dX9_right_93 : decode cX9_right 93 = .ok (.goto 4, 3) := (op_167 nb_dX9_right_92.2.1).trans rfl
theorem dX9_right_96 : decode cX9_right 96 = .ok (.iconst (-1), 1) := op_2 nb_dX9_right_92.2.2.1
theorem dX9_right_97 : decode cX9_right 97 = .ok (.ireturn, 1) := op_172 nb_dX9_right_92.2.2.2.1
def fX9_right (N : Nat) (x1 : Int32) (v_rowsOf : Int32) (v_columnsOf : Int32) (v_textMany : Int32) (v_base : Int32) (v_at : Int32) (v_ends : Int32) (v_fault : Int32) (v_opened : Int32) (v_bentMany : Int32) (v_bentWrong : Int32) (v_moreWorn : Int32) (v_wishedField : Int32) (v_isFound : Bool) (v_bestWrong : Int32) (v_bestWorn : Int32) (v_bestMany : Int32) (v_limit : List Int32) (v_shapeRows : List Int32) (v_shapeColumns : List Int32) (v_row : List Int32) (v_column : List Int32) (v_below : List Int32) (v_face : List Int32) (v_worn : List Int32) (v_lastBend : List Int32) (v_tape : List Int32) (v_text : List Int32) (v_names : List Int32) (v_bends : List Int32) (v_high : List Int32) (v_to : List Int32) (v_pileSize : List Int32) (v_way1 : List Int32) (v_bestWay : List Int32) : Option (Int32 × Int32 × Int32 × Int32 × Int32 × Int32 × Int32 × Int32 × Int32 × Int32 × Bool × Int32 × Int32 × Int32 × List Int32 × List Int32 × List Int32 × List Int32 × List Int32 × List Int32 × List Int32 × List Int32 × List Int32 × List Int32 × List Int32 × List Int32 × List Int32 × List Int32 × List Int32) :=
    if (-3 : Int32) ≤ x1 then
    (mm_bd1 (fX9_fields N v_rowsOf v_columnsOf) (fun (r_2 : Int32) =>
    if r_2 ≤ (16 : Int32) then
    (mm_bd28 (fX9_searches N (-1 : Int32) v_rowsOf v_columnsOf v_textMany v_base v_at v_ends v_fault v_opened v_bentMany v_bentWrong v_moreWorn v_wishedField v_isFound v_bestWrong v_bestWorn v_bestMany v_limit v_shapeRows v_shapeColumns v_row v_column v_below v_face v_worn v_lastBend v_tape v_text v_names v_bends v_high v_to v_pileSize v_way1 v_bestWay) (fun (w_5 : Int32) (w_6 : Int32) (w_7 : Int32) (w_8 : Int32) (w_9 : Int32) (w_10 : Int32) (w_11 : Int32) (w_12 : Int32) (w_13 : Int32) (w_14 : Bool) (w_15 : Int32) (w_16 : Int32) (w_17 : Int32) (w_18 : List Int32) (w_19 : List Int32) (w_20 : List Int32) (w_21 : List Int32) (w_22 : List Int32) (w_23 : List Int32) (w_24 : List Int32) (w_25 : List Int32) (w_26 : List Int32) (w_27 : List Int32) (w_28 : List Int32) (w_29 : List Int32) (w_30 : List Int32) (w_31 : List Int32) (w_32 : List Int32) =>
    if w_14 = false then
    (some ((-2 : Int32), w_5, w_6, w_7, w_8, w_9, w_10, w_11, w_12, w_13, w_14, w_15, w_16, w_17, w_18, w_19, w_20, w_21, w_22, w_23, w_24, w_25, w_26, w_27, w_28, w_29, w_30, w_31, w_32))
    else (if x1 = (-3 : Int32) then
    (some (w_17, w_5, w_6, w_7, w_8, w_9, w_10, w_11, w_12, w_13, w_14, w_15, w_16, w_17, w_18, w_19, w_20, w_21, w_22, w_23, w_24, w_25, w_26, w_27, w_28, w_29, w_30, w_31, w_32))
    else (if x1 = (-2 : Int32) then
    (some (w_16, w_5, w_6, w_7, w_8, w_9, w_10, w_11, w_12, w_13, w_14, w_15, w_16, w_17, w_18, w_19, w_20, w_21, w_22, w_23, w_24, w_25, w_26, w_27, w_28, w_29, w_30, w_31, w_32))
    else (if x1 = (-1 : Int32) then
    (some (w_15, w_5, w_6, w_7, w_8, w_9, w_10, w_11, w_12, w_13, w_14, w_15, w_16, w_17, w_18, w_19, w_20, w_21, w_22, w_23, w_24, w_25, w_26, w_27, w_28, w_29, w_30, w_31, w_32))
    else (if w_17 ≤ x1 then
    (some ((-1 : Int32), w_5, w_6, w_7, w_8, w_9, w_10, w_11, w_12, w_13, w_14, w_15, w_16, w_17, w_18, w_19, w_20, w_21, w_22, w_23, w_24, w_25, w_26, w_27, w_28, w_29, w_30, w_31, w_32))
    else (mm_ck (mm_inb x1 w_32.length) (some ((mm_ig w_32 x1), w_5, w_6, w_7, w_8, w_9, w_10, w_11, w_12, w_13, w_14, w_15, w_16, w_17, w_18, w_19, w_20, w_21, w_22, w_23, w_24, w_25, w_26, w_27, w_28, w_29, w_30, w_31, w_32)))))))))
    else (some ((-5 : Int32), v_base, v_at, v_ends, v_fault, v_opened, v_bentMany, v_bentWrong, v_moreWorn, v_wishedField, v_isFound, v_bestWrong, v_bestWorn, v_bestMany, v_shapeRows, v_shapeColumns, v_row, v_column, v_below, v_face, v_worn, v_lastBend, v_names, v_bends, v_high, v_to, v_pileSize, v_way1, v_bestWay))))
    else (some ((-1 : Int32), v_base, v_at, v_ends, v_fault, v_opened, v_bentMany, v_bentWrong, v_moreWorn, v_wishedField, v_isFound, v_bestWrong, v_bestWorn, v_bestMany, v_shapeRows, v_shapeColumns, v_row, v_column, v_below, v_face, v_worn, v_lastBend, v_names, v_bends, v_high, v_to, v_pileSize, v_way1, v_bestWay))

set_option maxHeartbeats 4000000 in
set_option maxRecDepth 100000 in
theorem ctX9_right {l : Launch} {D : va_G} {cI cL cS cH : ClassId} {a : Nat → Nat} {x1 : Int32} {v_keptMany : Int32} {v_done : Int32} {v_rowsOf : Int32} {v_columnsOf : Int32} {v_folded : Int32} {v_wronged : Int32} {v_tapeMany : Int32} {v_textMany : Int32} {v_base : Int32} {v_at : Int32} {v_ends : Int32} {v_fault : Int32} {v_opened : Int32} {v_bentMany : Int32} {v_bentWrong : Int32} {v_moreWorn : Int32} {v_planned : Int32} {v_allWrong : Int32} {v_allWorn : Int32} {v_z : Int32} {v_wishedField : Int32} {v_isFound : Bool} {v_bestWrong : Int32} {v_bestWorn : Int32} {v_bestMany : Int32} {v_soughtBy : Int32} {v_sought : Int32} {v_soughtAt : Int32} {v_foundMany : Int32} {v_foundOrder : Int32} {v_isKept : Bool} {v_imageRows : Int32} {v_imageColumns : Int32} {v_imageFolded : Int32} {v_imageWronged : Int32} {v_bodies : Int32} {v_ran : Int32} {v_ownKind : Int32} {v_ownNumber : Int32} {v_limit : List Int32} {v_changeWas : List Int32} {v_changeIs : List Int32} {v_shapeRows : List Int32} {v_shapeColumns : List Int32} {v_row : List Int32} {v_column : List Int32} {v_below : List Int32} {v_face : List Int32} {v_worn : List Int32} {v_lastBend : List Int32} {v_tape : List Int32} {v_text : List Int32} {v_names : List Int32} {v_bends : List Int32} {v_high : List Int32} {v_to : List Int32} {v_pileSize : List Int32} {v_planLine : List Int32} {v_planWay : List Int32} {v_way1 : List Int32} {v_bestWay : List Int32} {v_order1 : List Int32} {v_placeIn : List Int32} {v_bodyKind : List Int32} {v_trace : List Int32} {v_shelf : List Int32} {v_many : List Int32} {v_items : List Int64} {v_carried : List Int64} {r : Int32} {w_base : Int32} {w_at : Int32} {w_ends : Int32} {w_fault : Int32} {w_opened : Int32} {w_bentMany : Int32} {w_bentWrong : Int32} {w_moreWorn : Int32} {w_wishedField : Int32} {w_isFound : Bool} {w_bestWrong : Int32} {w_bestWorn : Int32} {w_bestMany : Int32} {w_shapeRows : List Int32} {w_shapeColumns : List Int32} {w_row : List Int32} {w_column : List Int32} {w_below : List Int32} {w_face : List Int32} {w_worn : List Int32} {w_lastBend : List Int32} {w_names : List Int32} {w_bends : List Int32} {w_high : List Int32} {w_to : List Int32} {w_pileSize : List Int32} {w_way1 : List Int32} {w_bestWay : List Int32} {N d : Nat} (hd : 66 ≤ d) (hf : fX9_right N x1 v_rowsOf v_columnsOf v_textMany v_base v_at v_ends v_fault v_opened v_bentMany v_bentWrong v_moreWorn v_wishedField v_isFound v_bestWrong v_bestWorn v_bestMany v_limit v_shapeRows v_shapeColumns v_row v_column v_below v_face v_worn v_lastBend v_tape v_text v_names v_bends v_high v_to v_pileSize v_way1 v_bestWay = some (r, w_base, w_at, w_ends, w_fault, w_opened, w_bentMany, w_bentWrong, w_moreWorn, w_wishedField, w_isFound, w_bestWrong, w_bestWorn, w_bestMany, w_shapeRows, w_shapeColumns, w_row, w_column, w_below, w_face, w_worn, w_lastBend, w_names, w_bends, w_high, w_to, w_pileSize, w_way1, w_bestWay)) : mm_Ct l yX9_right cX9_right 2 (some .int) d D (mm_T cI cL cS cH) [.ref (a 0), .int x1] (wd_X9 cI cL cS cH a v_keptMany v_done v_rowsOf v_columnsOf v_folded v_wronged v_tapeMany v_textMany v_base v_at v_ends v_fault v_opened v_bentMany v_bentWrong v_moreWorn v_planned v_allWrong v_allWorn v_z v_wishedField v_isFound v_bestWrong v_bestWorn v_bestMany v_soughtBy v_sought v_soughtAt v_foundMany v_foundOrder v_isKept v_imageRows v_imageColumns v_imageFolded v_imageWronged v_bodies v_ran v_ownKind v_ownNumber v_limit v_changeWas v_changeIs v_shapeRows v_shapeColumns v_row v_column v_below v_face v_worn v_lastBend v_tape v_text v_names v_bends v_high v_to v_pileSize v_planLine v_planWay v_way1 v_bestWay v_order1 v_placeIn v_bodyKind v_trace v_shelf v_many v_items v_carried) (wd_X9 cI cL cS cH a v_keptMany v_done v_rowsOf v_columnsOf v_folded v_wronged v_tapeMany v_textMany w_base w_at w_ends w_fault w_opened w_bentMany w_bentWrong w_moreWorn v_planned v_allWrong v_allWorn v_z w_wishedField w_isFound w_bestWrong w_bestWorn w_bestMany v_soughtBy v_sought v_soughtAt v_foundMany v_foundOrder v_isKept v_imageRows v_imageColumns v_imageFolded v_imageWronged v_bodies v_ran v_ownKind v_ownNumber v_limit v_changeWas v_changeIs w_shapeRows w_shapeColumns w_row w_column w_below w_face w_worn w_lastBend v_tape v_text w_names w_bends w_high w_to w_pileSize v_planLine v_planWay w_way1 w_bestWay v_order1 v_placeIn v_bodyKind v_trace v_shelf v_many v_items v_carried) (some (.int r)) := by
  refine mm_of (by decide) (Nat.le_of_ble_eq_true rfl) ?_
  intro p e s m args below meth c A H locs ls C0 hP hD hA hS hl
  have C0 : mm_Cx p s m args meth c RX9 cX9_right 2 (some .int) D (mm_T cI cL cS cH) A := C0
  obtain ⟨hx, hb, hml, hown, hts, hr, hlocks, hK, hSt⟩ := id C0
  have hl : lv_has ls 2 [(0, .ref (a 0)), (1, .int x1)] := hl
  unfold fX9_right at hf
  refine lv_iload_n hx hb dX9_right_0 rfl (lv_at hl 1 rfl) ?_
  refine lv_bipush (v := -3) hx hb dX9_right_1 (by decide) ?_
  refine lv_icmp_ge (tgt := 8) hx hb dX9_right_3 (by decide) (fun c_1 => ?_) (fun c_1 => ?_)
  · have hf := mm_ip hf c_1
    refine lv_aload_n hx hb dX9_right_8 rfl (lv_at hl 0 rfl) ?_
    obtain ⟨r_2, hc_3, hf⟩ := mm_bd1s hf
    refine mm_callVF (q0 := 0) (ci := 9) (rest := []) C0 lk_X9_127 (ctX9_fields (a := a) (d := d - 1) (by omega) hc_3) (by omega) rfl hl.1 rfl (mm_cat rfl) dX9_right_9 hP hD hA hS rfl rfl (fun H locs hP hD hS => ?_)
    refine W.eq (g2 := F0 m 12 ls [.int r_2]) rfl ?_
    refine lv_bipush (v := 16) hx hb dX9_right_12 (by decide) ?_
    refine lv_icmp_le (tgt := 20) hx hb dX9_right_14 (by decide) (fun c_4 => ?_) (fun c_4 => ?_)
    · have hf := mm_ip hf c_4
      refine lv_aload_n hx hb dX9_right_20 rfl (lv_at hl 0 rfl) ?_
      refine lv_iconst (v := -1) hx hb dX9_right_21 (by decide) ?_
      refine mm_ct28 hf (fun w_5 w_6 w_7 w_8 w_9 w_10 w_11 w_12 w_13 w_14 w_15 w_16 w_17 w_18 w_19 w_20 w_21 w_22 w_23 w_24 w_25 w_26 w_27 w_28 w_29 w_30 w_31 w_32 hc_33 hf => ?_)
      refine mm_callVF (q0 := 0) (ci := 9) (rest := []) C0 lk_X9_332 (ctX9_searches (a := a) (d := d - 1) (by omega) hc_33) (by omega) rfl hl.1 rfl (mm_cat rfl) dX9_right_22 hP hD hA hS rfl rfl (fun H locs hP hD hS => ?_)
      refine W.eq (g2 := F0 m 25 ls []) rfl ?_
      refine lv_aload_n hx hb dX9_right_25 rfl (lv_at hl 0 rfl) ?_
      refine mm_get C0 hP iw_X9 0 rfl rfl 43 (by decide) fl_X9_307 rfl dX9_right_26 ?_
      refine lv_if_ne (tgt := 35) hx hb dX9_right_29 (by decide) (fun c_34 => ?_) (fun c_34 => ?_)
      · have hf := mm_in hf (mm_b1 c_34)
        refine lv_iload_n hx hb dX9_right_35 rfl (lv_at hl 1 rfl) ?_
        by_cases c_35 : x1 = (-3 : Int32)
        · have hf := mm_ip hf c_35
          refine lv_tableIn (off := 38) (tgt := 74) hx hb dX9_right_36 (by rw [c_35]; decide) (by rw [c_35]; decide) (by rw [c_35]; first | done | rfl) (by decide) ?_
          refine lv_aload_n hx hb dX9_right_74 rfl (lv_at hl 0 rfl) ?_
          refine mm_get C0 hP iw_X9 0 rfl rfl 46 (by decide) fl_X9_311 rfl dX9_right_75 ?_
          apply mm_sub29 hf
          exact mm_iret C0 hP hD hS dX9_right_78
        · have hf := mm_in hf c_35
          by_cases c_36 : x1 = (-2 : Int32)
          · have hf := mm_ip hf c_36
            refine lv_tableIn (off := 33) (tgt := 69) hx hb dX9_right_36 (by rw [c_36]; decide) (by rw [c_36]; decide) (by rw [c_36]; first | done | rfl) (by decide) ?_
            refine lv_aload_n hx hb dX9_right_69 rfl (lv_at hl 0 rfl) ?_
            refine mm_get C0 hP iw_X9 0 rfl rfl 45 (by decide) fl_X9_317 rfl dX9_right_70 ?_
            apply mm_sub29 hf
            exact mm_iret C0 hP hD hS dX9_right_73
          · have hf := mm_in hf c_36
            by_cases c_37 : x1 = (-1 : Int32)
            · have hf := mm_ip hf c_37
              refine lv_tableIn (off := 28) (tgt := 64) hx hb dX9_right_36 (by rw [c_37]; decide) (by rw [c_37]; decide) (by rw [c_37]; first | done | rfl) (by decide) ?_
              refine lv_aload_n hx hb dX9_right_64 rfl (lv_at hl 0 rfl) ?_
              refine mm_get C0 hP iw_X9 0 rfl rfl 44 (by decide) fl_X9_314 rfl dX9_right_65 ?_
              apply mm_sub29 hf
              exact mm_iret C0 hP hD hS dX9_right_68
            · have hf := mm_in hf c_37
              refine lv_tableOut (tgt := 79) hx hb dX9_right_36 (by have nc_35 := lv_neT c_35 (a := -3) (by decide); have nc_36 := lv_neT c_36 (a := -2) (by decide); have nc_37 := lv_neT c_37 (a := -1) (by decide); omega) (by decide) ?_
              refine lv_iload_n hx hb dX9_right_79 rfl (lv_at hl 1 rfl) ?_
              refine lv_aload_n hx hb dX9_right_80 rfl (lv_at hl 0 rfl) ?_
              refine mm_get C0 hP iw_X9 0 rfl rfl 46 (by decide) fl_X9_311 rfl dX9_right_81 ?_
              refine lv_icmp_ge (tgt := 96) hx hb dX9_right_84 (by decide) (fun c_38 => ?_) (fun c_38 => ?_)
              · have hf := mm_ip hf c_38
                refine lv_iconst (v := -1) hx hb dX9_right_96 (by decide) ?_
                apply mm_sub29 hf
                exact mm_iret C0 hP hD hS dX9_right_97
              · have hf := mm_in hf c_38
                refine lv_aload_n hx hb dX9_right_87 rfl (lv_at hl 0 rfl) ?_
                refine mm_get C0 hP iw_X9 0 rfl rfl 42 (by decide) fl_X9_73 rfl dX9_right_88 ?_
                refine lv_iload_n hx hb dX9_right_91 rfl (lv_at hl 1 rfl) ?_
                obtain ⟨h_39, hf⟩ := mm_cks hf
                refine mm_iald C0 hP 22 rfl h_39 dX9_right_92 ?_
                refine lv_goto (tgt := 97) hx hb dX9_right_93 (by decide) ?_
                apply mm_sub29 hf
                exact mm_iret C0 hP hD hS dX9_right_97
      · have hf := mm_ip hf (mm_b0 c_34)
        refine lv_bipush (v := -2) hx hb dX9_right_32 (by decide) ?_
        apply mm_sub29 hf
        exact mm_iret C0 hP hD hS dX9_right_34
    · have hf := mm_in hf c_4
      refine lv_bipush (v := -5) hx hb dX9_right_17 (by decide) ?_
      apply mm_sub29 hf
      exact mm_iret C0 hP hD hS dX9_right_19
  · have hf := mm_in hf c_1
    refine lv_iconst (v := -1) hx hb dX9_right_6 (by decide) ?_
    apply mm_sub29 hf
    exact mm_iret C0 hP hD hS dX9_right_7

theorem nb_dX9_wind_0 : bls_w cX9_wind [(0, [28]), (1, [155, 0, 39]), (4, [28]), (5, [17, 3, 232]), (8, [108]), (9, [133]), (10, [10]), (11, [20, 1, 79]), (14, [184, 0, 111]), (17, [153, 0, 23]), (20, [28]), (21, [17, 3, 232])] := bls_of (by decide +kernel)
theorem dX9_wind_0 : decode cX9_wind 0 = .ok (.iload_n 2, 1) := op_28 nb_dX9_wind_0.1
set_option maxRecDepth 100000 in
theorem dX9_wind_1 : decode cX9_wind 1 = .ok (.ifCond .lt 39, 3) := (op_155 nb_dX9_wind_0.2.1).trans rfl
theorem dX9_wind_4 : decode cX9_wind 4 = .ok (.iload_n 2, 1) := op_28 nb_dX9_wind_0.2.2.1
set_option maxRecDepth 100000 in
theorem dX9_wind_5 : decode cX9_wind 5 = .ok (.sipush 1000, 3) := (op_17 nb_dX9_wind_0.2.2.2.1).trans rfl
theorem dX9_wind_8 : decode cX9_wind 8 = .ok (.idiv, 1) := op_108 nb_dX9_wind_0.2.2.2.2.1
theorem dX9_wind_9 : decode cX9_wind 9 = .ok (.i2l, 1) := op_133 nb_dX9_wind_0.2.2.2.2.2.1
theorem dX9_wind_10 : decode cX9_wind 10 = .ok (.lconst 1, 1) := op_10 nb_dX9_wind_0.2.2.2.2.2.2.1
set_option maxRecDepth 100000 in
theorem dX9_wind_11 : decode cX9_wind 11 = .ok (.ldc2_w 335, 3) := (op_20 nb_dX9_wind_0.2.2.2.2.2.2.2.1).trans rfl
set_option maxRecDepth 100000 in
theorem dX9_wind_14 : decode cX9_wind 14 = .ok (.invokestatic 111, 3) := (op_184 nb_dX9_wind_0.2.2.2.2.2.2.2.2.1).trans rfl
set_option maxRecDepth 100000 in
theorem dX9_wind_17 : decode cX9_wind 17 = .ok (.ifCond .eq 23, 3) := (op_153 nb_dX9_wind_0.2.2.2.2.2.2.2.2.2.1).trans rfl
theorem dX9_wind_20 : decode cX9_wind 20 = .ok (.iload_n 2, 1) := op_28 nb_dX9_wind_0.2.2.2.2.2.2.2.2.2.2.1
set_option maxRecDepth 100000 in
theorem dX9_wind_21 : decode cX9_wind 21 = .ok (.sipush 1000, 3) := (op_17 nb_dX9_wind_0.2.2.2.2.2.2.2.2.2.2.2.1).trans rfl
theorem nb_dX9_wind_24 : bls_w cX9_wind [(24, [112]), (25, [16, 100]), (27, [163, 0, 13]), (30, [29]), (31, [133]), (32, [9]), (33, [10]), (34, [184, 0, 111]), (37, [154, 0, 5]), (40, [2]), (41, [172]), (42, [42])] := bls_of (by decide +kernel)
theorem dX9_wind_24 : decode cX9_wind 24 = .ok (.irem, 1) := op_112 nb_dX9_wind_24.1
set_option maxRecDepth 100000 in
theorem dX9_wind_25 : decode cX9_wind 25 = .ok (.bipush 100, 2) := (op_16 nb_dX9_wind_24.2.1).trans rfl
set_option maxRecDepth 100000 in
theorem dX9_wind_27 : decode cX9_wind 27 = .ok (.if_icmp .gt 13, 3) := (op_163 nb_dX9_wind_24.2.2.1).trans rfl
theorem dX9_wind_30 : decode cX9_wind 30 = .ok (.iload_n 3, 1) := op_29 nb_dX9_wind_24.2.2.2.1
theorem dX9_wind_31 : decode cX9_wind 31 = .ok (.i2l, 1) := op_133 nb_dX9_wind_24.2.2.2.2.1
theorem dX9_wind_32 : decode cX9_wind 32 = .ok (.lconst 0, 1) := op_9 nb_dX9_wind_24.2.2.2.2.2.1
theorem dX9_wind_33 : decode cX9_wind 33 = .ok (.lconst 1, 1) := op_10 nb_dX9_wind_24.2.2.2.2.2.2.1
set_option maxRecDepth 100000 in
theorem dX9_wind_34 : decode cX9_wind 34 = .ok (.invokestatic 111, 3) := (op_184 nb_dX9_wind_24.2.2.2.2.2.2.2.1).trans rfl
set_option maxRecDepth 100000 in
theorem dX9_wind_37 : decode cX9_wind 37 = .ok (.ifCond .ne 5, 3) := (op_154 nb_dX9_wind_24.2.2.2.2.2.2.2.2.1).trans rfl
theorem dX9_wind_40 : decode cX9_wind 40 = .ok (.iconst (-1), 1) := op_2 nb_dX9_wind_24.2.2.2.2.2.2.2.2.2.1
theorem dX9_wind_41 : decode cX9_wind 41 = .ok (.ireturn, 1) := op_172 nb_dX9_wind_24.2.2.2.2.2.2.2.2.2.2.1
theorem dX9_wind_42 : decode cX9_wind 42 = .ok (.aload_n 0, 1) := op_42 nb_dX9_wind_24.2.2.2.2.2.2.2.2.2.2.2.1
theorem nb_dX9_wind_43 : bls_w cX9_wind [(43, [27]), (44, [181, 1, 32]), (47, [3]), (48, [54, 4]), (50, [3]), (51, [54, 5]), (53, [21, 5]), (55, [28]), (56, [17, 3, 232]), (59, [108]), (60, [162, 0, 42]), (63, [42])] := bls_of (by decide +kernel)
theorem dX9_wind_43 : decode cX9_wind 43 = .ok (.iload_n 1, 1) := op_27 nb_dX9_wind_43.1
set_option maxRecDepth 100000 in
theorem dX9_wind_44 : decode cX9_wind 44 = .ok (.putfield 288, 3) := (op_181 nb_dX9_wind_43.2.1).trans rfl
theorem dX9_wind_47 : decode cX9_wind 47 = .ok (.iconst 0, 1) := op_3 nb_dX9_wind_43.2.2.1
set_option maxRecDepth 100000 in
theorem dX9_wind_48 : decode cX9_wind 48 = .ok (.istore 4, 2) := (op_54 nb_dX9_wind_43.2.2.2.1).trans rfl
theorem dX9_wind_50 : decode cX9_wind 50 = .ok (.iconst 0, 1) := op_3 nb_dX9_wind_43.2.2.2.2.1
set_option maxRecDepth 100000 in
theorem dX9_wind_51 : decode cX9_wind 51 = .ok (.istore 5, 2) := (op_54 nb_dX9_wind_43.2.2.2.2.2.1).trans rfl
set_option maxRecDepth 100000 in
theorem dX9_wind_53 : decode cX9_wind 53 = .ok (.iload 5, 2) := (op_21 nb_dX9_wind_43.2.2.2.2.2.2.1).trans rfl
theorem dX9_wind_55 : decode cX9_wind 55 = .ok (.iload_n 2, 1) := op_28 nb_dX9_wind_43.2.2.2.2.2.2.2.1
set_option maxRecDepth 100000 in
theorem dX9_wind_56 : decode cX9_wind 56 = .ok (.sipush 1000, 3) := (op_17 nb_dX9_wind_43.2.2.2.2.2.2.2.2.1).trans rfl
theorem dX9_wind_59 : decode cX9_wind 59 = .ok (.idiv, 1) := op_108 nb_dX9_wind_43.2.2.2.2.2.2.2.2.2.1
set_option maxRecDepth 100000 in
theorem dX9_wind_60 : decode cX9_wind 60 = .ok (.if_icmp .ge 42, 3) := (op_162 nb_dX9_wind_43.2.2.2.2.2.2.2.2.2.2.1).trans rfl
theorem dX9_wind_63 : decode cX9_wind 63 = .ok (.aload_n 0, 1) := op_42 nb_dX9_wind_43.2.2.2.2.2.2.2.2.2.2.2.1
theorem nb_dX9_wind_64 : bls_w cX9_wind [(64, [16, 12]), (66, [28]), (67, [17, 3, 232]), (70, [112]), (71, [182, 1, 36]), (74, [54, 6]), (76, [21, 4]), (78, [29]), (79, [154, 0, 10]), (82, [42]), (83, [180, 1, 26]), (86, [167, 0, 7])] := bls_of (by decide +kernel)
set_option maxRecDepth 100000 in
theorem dX9_wind_64 : decode cX9_wind 64 = .ok (.bipush 12, 2) := (op_16 nb_dX9_wind_64.1).trans rfl
theorem dX9_wind_66 : decode cX9_wind 66 = .ok (.iload_n 2, 1) := op_28 nb_dX9_wind_64.2.1
set_option maxRecDepth 100000 in
theorem dX9_wind_67 : decode cX9_wind 67 = .ok (.sipush 1000, 3) := (op_17 nb_dX9_wind_64.2.2.1).trans rfl
theorem dX9_wind_70 : decode cX9_wind 70 = .ok (.irem, 1) := op_112 nb_dX9_wind_64.2.2.2.1
set_option maxRecDepth 100000 in
theorem dX9_wind_71 : decode cX9_wind 71 = .ok (.invokevirtual 292, 3) := (op_182 nb_dX9_wind_64.2.2.2.2.1).trans rfl
set_option maxRecDepth 100000 in
theorem dX9_wind_74 : decode cX9_wind 74 = .ok (.istore 6, 2) := (op_54 nb_dX9_wind_64.2.2.2.2.2.1).trans rfl
set_option maxRecDepth 100000 in
theorem dX9_wind_76 : decode cX9_wind 76 = .ok (.iload 4, 2) := (op_21 nb_dX9_wind_64.2.2.2.2.2.2.1).trans rfl
theorem dX9_wind_78 : decode cX9_wind 78 = .ok (.iload_n 3, 1) := op_29 nb_dX9_wind_64.2.2.2.2.2.2.2.1
set_option maxRecDepth 100000 in
theorem dX9_wind_79 : decode cX9_wind 79 = .ok (.ifCond .ne 10, 3) := (op_154 nb_dX9_wind_64.2.2.2.2.2.2.2.2.1).trans rfl
theorem dX9_wind_82 : decode cX9_wind 82 = .ok (.aload_n 0, 1) := op_42 nb_dX9_wind_64.2.2.2.2.2.2.2.2.2.1
set_option maxRecDepth 100000 in
theorem dX9_wind_83 : decode cX9_wind 83 = .ok (.getfield 282, 3) := (op_180 nb_dX9_wind_64.2.2.2.2.2.2.2.2.2.2.1).trans rfl
set_option maxRecDepth 100000 in
theorem dX9_wind_86 : decode cX9_wind 86 = .ok (.goto 7, 3) := (op_167 nb_dX9_wind_64.2.2.2.2.2.2.2.2.2.2.2.1).trans rfl
theorem nb_dX9_wind_89 : bls_w cX9_wind [(89, [42]), (90, [180, 1, 29]), (93, [96]), (94, [54, 4]), (96, [132, 5, 1]), (99, [167, 255, 210]), (102, [21, 4]), (104, [28]), (105, [17, 3, 232]), (108, [108]), (109, [108]), (110, [172])] := bls_of (by decide +kernel)
theorem dX9_wind_89 : decode cX9_wind 89 = .ok (.aload_n 0, 1) := op_42 nb_dX9_wind_89.1
set_option maxRecDepth 100000 in
theorem dX9_wind_90 : decode cX9_wind 90 = .ok (.getfield 285, 3) := (op_180 nb_dX9_wind_89.2.1).trans rfl
theorem dX9_wind_93 : decode cX9_wind 93 = .ok (.iadd, 1) := op_96 nb_dX9_wind_89.2.2.1
set_option maxRecDepth 100000 in
theorem dX9_wind_94 : decode cX9_wind 94 = .ok (.istore 4, 2) := (op_54 nb_dX9_wind_89.2.2.2.1).trans rfl
set_option maxRecDepth 100000 in
theorem dX9_wind_96 : decode cX9_wind 96 = .ok (.iinc 5 1, 3) := (op_132 nb_dX9_wind_89.2.2.2.2.1).trans rfl
set_option maxRecDepth 100000 in
theorem dX9_wind_99 : decode cX9_wind 99 = .ok (.goto (-46), 3) := (op_167 nb_dX9_wind_89.2.2.2.2.2.1).trans rfl
set_option maxRecDepth 100000 in
theorem dX9_wind_102 : decode cX9_wind 102 = .ok (.iload 4, 2) := (op_21 nb_dX9_wind_89.2.2.2.2.2.2.1).trans rfl
theorem dX9_wind_104 : decode cX9_wind 104 = .ok (.iload_n 2, 1) := op_28 nb_dX9_wind_89.2.2.2.2.2.2.2.1
set_option maxRecDepth 100000 in
theorem dX9_wind_105 : decode cX9_wind 105 = .ok (.sipush 1000, 3) := (op_17 nb_dX9_wind_89.2.2.2.2.2.2.2.2.1).trans rfl
theorem dX9_wind_108 : decode cX9_wind 108 = .ok (.idiv, 1) := op_108 nb_dX9_wind_89.2.2.2.2.2.2.2.2.2.1
theorem dX9_wind_109 : decode cX9_wind 109 = .ok (.idiv, 1) := op_108 nb_dX9_wind_89.2.2.2.2.2.2.2.2.2.2.1
theorem dX9_wind_110 : decode cX9_wind 110 = .ok (.ireturn, 1) := op_172 nb_dX9_wind_89.2.2.2.2.2.2.2.2.2.2.2.1
def fX9_wind_93 (N : Nat) (k_53 : Int32 → Int32 → Int32 → Int32 → Int32 → Int32 → Int32 → Int32 → Int32 → Int32 → Int32 → Int32 → Int32 → Int32 → Int32 → Int32 → Int32 → Int32 → Int32 → List Int32 → List Int32 → List Int32 → List Int32 → List Int32 → List Int32 → List Int32 → List Int32 → List Int32 → List Int32 → List Int32 → List Int32 → List Int32 → List Int32 → List Int32 → List Int32 → List Int32 → List Int32 → Option (Int32 × Int32 × Int32 × Int32 × Int32 × Int32 × Int32 × Int32 × Int32 × Int32 × Int32 × Int32 × List Int32 × List Int32 × List Int32 × List Int32 × List Int32 × List Int32 × List Int32 × List Int32 × List Int32 × List Int32 × List Int32 × List Int32 × List Int32)) (x2 : Int32) (x3 : Int32) (x5 : Int32) (s0 : Int32) (s1 : Int32) (v_rowsOf : Int32) (v_columnsOf : Int32) (v_textMany : Int32) (v_base : Int32) (v_at : Int32) (v_ends : Int32) (v_fault : Int32) (v_opened : Int32) (v_bentMany : Int32) (v_bentWrong : Int32) (v_moreWorn : Int32) (v_planned : Int32) (v_allWrong : Int32) (v_allWorn : Int32) (v_z : Int32) (v_limit : List Int32) (v_shapeRows : List Int32) (v_shapeColumns : List Int32) (v_row : List Int32) (v_column : List Int32) (v_below : List Int32) (v_face : List Int32) (v_worn : List Int32) (v_lastBend : List Int32) (v_tape : List Int32) (v_text : List Int32) (v_names : List Int32) (v_bends : List Int32) (v_high : List Int32) (v_to : List Int32) (v_pileSize : List Int32) (v_planLine : List Int32) (v_planWay : List Int32) : Option (Int32 × Int32 × Int32 × Int32 × Int32 × Int32 × Int32 × Int32 × Int32 × Int32 × Int32 × Int32 × List Int32 × List Int32 × List Int32 × List Int32 × List Int32 × List Int32 × List Int32 × List Int32 × List Int32 × List Int32 × List Int32 × List Int32 × List Int32) :=
    mm_nm ((s1 + s0)) (fun (y_43 : Int32) =>
    mm_nm (x5 + (1 : Int32)) (fun (y_44 : Int32) =>
    k_53 x2 x3 y_43 y_44 v_rowsOf v_columnsOf v_textMany v_base v_at v_ends v_fault v_opened v_bentMany v_bentWrong v_moreWorn v_planned v_allWrong v_allWorn v_z v_limit v_shapeRows v_shapeColumns v_row v_column v_below v_face v_worn v_lastBend v_tape v_text v_names v_bends v_high v_to v_pileSize v_planLine v_planWay))

set_option maxHeartbeats 4000000 in
set_option maxRecDepth 100000 in
theorem tX9_wind_93 {p : Program} {l : Launch} {e : Env} {s : State} {m : MethodId} {args : Array Value} {below : List Frame} {meth : Method} {c : Code} {D : va_G} {cI cL cS cH : ClassId} {A : Nat → Prop} {d : Nat} {a : Nat → Nat} (hd : 61 ≤ d) (C0 : mm_Cx p s m args meth c RX9 cX9_wind 7 (some .int) D (mm_T cI cL cS cH) A) (hA : ∀ q, s.heap.size ≤ q → A q) {v_keptMany : Int32} {v_done : Int32} {v_folded : Int32} {v_wronged : Int32} {v_tapeMany : Int32} {v_wishedField : Int32} {v_isFound : Bool} {v_bestWrong : Int32} {v_bestWorn : Int32} {v_bestMany : Int32} {v_soughtBy : Int32} {v_sought : Int32} {v_soughtAt : Int32} {v_foundMany : Int32} {v_foundOrder : Int32} {v_isKept : Bool} {v_imageRows : Int32} {v_imageColumns : Int32} {v_imageFolded : Int32} {v_imageWronged : Int32} {v_bodies : Int32} {v_ran : Int32} {v_ownKind : Int32} {v_ownNumber : Int32} {v_changeWas : List Int32} {v_changeIs : List Int32} {v_way1 : List Int32} {v_bestWay : List Int32} {v_order1 : List Int32} {v_placeIn : List Int32} {v_bodyKind : List Int32} {v_trace : List Int32} {v_shelf : List Int32} {v_many : List Int32} {v_items : List Int64} {v_carried : List Int64} {r : Int32} {w_base : Int32} {w_at : Int32} {w_ends : Int32} {w_fault : Int32} {w_opened : Int32} {w_bentMany : Int32} {w_bentWrong : Int32} {w_moreWorn : Int32} {w_allWrong : Int32} {w_allWorn : Int32} {w_z : Int32} {w_shapeRows : List Int32} {w_shapeColumns : List Int32} {w_row : List Int32} {w_column : List Int32} {w_below : List Int32} {w_face : List Int32} {w_worn : List Int32} {w_lastBend : List Int32} {w_names : List Int32} {w_bends : List Int32} {w_high : List Int32} {w_to : List Int32} {w_pileSize : List Int32} (N : Nat) {k_53 : Int32 → Int32 → Int32 → Int32 → Int32 → Int32 → Int32 → Int32 → Int32 → Int32 → Int32 → Int32 → Int32 → Int32 → Int32 → Int32 → Int32 → Int32 → Int32 → List Int32 → List Int32 → List Int32 → List Int32 → List Int32 → List Int32 → List Int32 → List Int32 → List Int32 → List Int32 → List Int32 → List Int32 → List Int32 → List Int32 → List Int32 → List Int32 → List Int32 → List Int32 → Option (Int32 × Int32 × Int32 × Int32 × Int32 × Int32 × Int32 × Int32 × Int32 × Int32 × Int32 × Int32 × List Int32 × List Int32 × List Int32 × List Int32 × List Int32 × List Int32 × List Int32 × List Int32 × List Int32 × List Int32 × List Int32 × List Int32 × List Int32)} (hk_53 : ∀ (x2 : Int32) (x3 : Int32) (x4 : Int32) (x5 : Int32) (v_rowsOf : Int32) (v_columnsOf : Int32) (v_textMany : Int32) (v_base : Int32) (v_at : Int32) (v_ends : Int32) (v_fault : Int32) (v_opened : Int32) (v_bentMany : Int32) (v_bentWrong : Int32) (v_moreWorn : Int32) (v_planned : Int32) (v_allWrong : Int32) (v_allWorn : Int32) (v_z : Int32) (v_limit : List Int32) (v_shapeRows : List Int32) (v_shapeColumns : List Int32) (v_row : List Int32) (v_column : List Int32) (v_below : List Int32) (v_face : List Int32) (v_worn : List Int32) (v_lastBend : List Int32) (v_tape : List Int32) (v_text : List Int32) (v_names : List Int32) (v_bends : List Int32) (v_high : List Int32) (v_to : List Int32) (v_pileSize : List Int32) (v_planLine : List Int32) (v_planWay : List Int32) (H : Heap) (locs : List Loc) (ls : Array Slot), k_53 x2 x3 x4 x5 v_rowsOf v_columnsOf v_textMany v_base v_at v_ends v_fault v_opened v_bentMany v_bentWrong v_moreWorn v_planned v_allWrong v_allWorn v_z v_limit v_shapeRows v_shapeColumns v_row v_column v_below v_face v_worn v_lastBend v_tape v_text v_names v_bends v_high v_to v_pileSize v_planLine v_planWay = some (r, w_base, w_at, w_ends, w_fault, w_opened, w_bentMany, w_bentWrong, w_moreWorn, w_allWrong, w_allWorn, w_z, w_shapeRows, w_shapeColumns, w_row, w_column, w_below, w_face, w_worn, w_lastBend, w_names, w_bends, w_high, w_to, w_pileSize) → va_P D mm_cl (wd_X9 cI cL cS cH a v_keptMany v_done v_rowsOf v_columnsOf v_folded v_wronged v_tapeMany v_textMany v_base v_at v_ends v_fault v_opened v_bentMany v_bentWrong v_moreWorn v_planned v_allWrong v_allWorn v_z v_wishedField v_isFound v_bestWrong v_bestWorn v_bestMany v_soughtBy v_sought v_soughtAt v_foundMany v_foundOrder v_isKept v_imageRows v_imageColumns v_imageFolded v_imageWronged v_bodies v_ran v_ownKind v_ownNumber v_limit v_changeWas v_changeIs v_shapeRows v_shapeColumns v_row v_column v_below v_face v_worn v_lastBend v_tape v_text v_names v_bends v_high v_to v_pileSize v_planLine v_planWay v_way1 v_bestWay v_order1 v_placeIn v_bodyKind v_trace v_shelf v_many v_items v_carried) H → va_D A (wd_X9 cI cL cS cH a v_keptMany v_done v_rowsOf v_columnsOf v_folded v_wronged v_tapeMany v_textMany v_base v_at v_ends v_fault v_opened v_bentMany v_bentWrong v_moreWorn v_planned v_allWrong v_allWorn v_z v_wishedField v_isFound v_bestWrong v_bestWorn v_bestMany v_soughtBy v_sought v_soughtAt v_foundMany v_foundOrder v_isKept v_imageRows v_imageColumns v_imageFolded v_imageWronged v_bodies v_ran v_ownKind v_ownNumber v_limit v_changeWas v_changeIs v_shapeRows v_shapeColumns v_row v_column v_below v_face v_worn v_lastBend v_tape v_text v_names v_bends v_high v_to v_pileSize v_planLine v_planWay v_way1 v_bestWay v_order1 v_placeIn v_bodyKind v_trace v_shelf v_many v_items v_carried) → va_S A s.heap H locs → lv_has ls 7 [(0, .ref (a 0)), (2, .int x2), (3, .int x3), (4, .int x4), (5, .int x5)] → W p l e (mm_rr d) s m args below meth c H locs 0 0 (mm_Z below D A (wd_X9 cI cL cS cH a v_keptMany v_done v_rowsOf v_columnsOf v_folded v_wronged v_tapeMany v_textMany w_base w_at w_ends w_fault w_opened w_bentMany w_bentWrong w_moreWorn v_planned w_allWrong w_allWorn w_z v_wishedField v_isFound v_bestWrong v_bestWorn v_bestMany v_soughtBy v_sought v_soughtAt v_foundMany v_foundOrder v_isKept v_imageRows v_imageColumns v_imageFolded v_imageWronged v_bodies v_ran v_ownKind v_ownNumber v_limit v_changeWas v_changeIs w_shapeRows w_shapeColumns w_row w_column w_below w_face w_worn w_lastBend v_tape v_text w_names w_bends w_high w_to w_pileSize v_planLine v_planWay v_way1 v_bestWay v_order1 v_placeIn v_bodyKind v_trace v_shelf v_many v_items v_carried) (some (.int r)) args s) (F0 m 53 ls [])) : ∀ (x2 : Int32) (x3 : Int32) (x5 : Int32) (s0 : Int32) (s1 : Int32) (v_rowsOf : Int32) (v_columnsOf : Int32) (v_textMany : Int32) (v_base : Int32) (v_at : Int32) (v_ends : Int32) (v_fault : Int32) (v_opened : Int32) (v_bentMany : Int32) (v_bentWrong : Int32) (v_moreWorn : Int32) (v_planned : Int32) (v_allWrong : Int32) (v_allWorn : Int32) (v_z : Int32) (v_limit : List Int32) (v_shapeRows : List Int32) (v_shapeColumns : List Int32) (v_row : List Int32) (v_column : List Int32) (v_below : List Int32) (v_face : List Int32) (v_worn : List Int32) (v_lastBend : List Int32) (v_tape : List Int32) (v_text : List Int32) (v_names : List Int32) (v_bends : List Int32) (v_high : List Int32) (v_to : List Int32) (v_pileSize : List Int32) (v_planLine : List Int32) (v_planWay : List Int32) (H : Heap) (locs : List Loc) (ls : Array Slot), fX9_wind_93 N k_53 x2 x3 x5 s0 s1 v_rowsOf v_columnsOf v_textMany v_base v_at v_ends v_fault v_opened v_bentMany v_bentWrong v_moreWorn v_planned v_allWrong v_allWorn v_z v_limit v_shapeRows v_shapeColumns v_row v_column v_below v_face v_worn v_lastBend v_tape v_text v_names v_bends v_high v_to v_pileSize v_planLine v_planWay = some (r, w_base, w_at, w_ends, w_fault, w_opened, w_bentMany, w_bentWrong, w_moreWorn, w_allWrong, w_allWorn, w_z, w_shapeRows, w_shapeColumns, w_row, w_column, w_below, w_face, w_worn, w_lastBend, w_names, w_bends, w_high, w_to, w_pileSize) → va_P D mm_cl (wd_X9 cI cL cS cH a v_keptMany v_done v_rowsOf v_columnsOf v_folded v_wronged v_tapeMany v_textMany v_base v_at v_ends v_fault v_opened v_bentMany v_bentWrong v_moreWorn v_planned v_allWrong v_allWorn v_z v_wishedField v_isFound v_bestWrong v_bestWorn v_bestMany v_soughtBy v_sought v_soughtAt v_foundMany v_foundOrder v_isKept v_imageRows v_imageColumns v_imageFolded v_imageWronged v_bodies v_ran v_ownKind v_ownNumber v_limit v_changeWas v_changeIs v_shapeRows v_shapeColumns v_row v_column v_below v_face v_worn v_lastBend v_tape v_text v_names v_bends v_high v_to v_pileSize v_planLine v_planWay v_way1 v_bestWay v_order1 v_placeIn v_bodyKind v_trace v_shelf v_many v_items v_carried) H → va_D A (wd_X9 cI cL cS cH a v_keptMany v_done v_rowsOf v_columnsOf v_folded v_wronged v_tapeMany v_textMany v_base v_at v_ends v_fault v_opened v_bentMany v_bentWrong v_moreWorn v_planned v_allWrong v_allWorn v_z v_wishedField v_isFound v_bestWrong v_bestWorn v_bestMany v_soughtBy v_sought v_soughtAt v_foundMany v_foundOrder v_isKept v_imageRows v_imageColumns v_imageFolded v_imageWronged v_bodies v_ran v_ownKind v_ownNumber v_limit v_changeWas v_changeIs v_shapeRows v_shapeColumns v_row v_column v_below v_face v_worn v_lastBend v_tape v_text v_names v_bends v_high v_to v_pileSize v_planLine v_planWay v_way1 v_bestWay v_order1 v_placeIn v_bodyKind v_trace v_shelf v_many v_items v_carried) → va_S A s.heap H locs → lv_has ls 7 [(0, .ref (a 0)), (2, .int x2), (3, .int x3), (5, .int x5)] → W p l e (mm_rr d) s m args below meth c H locs 0 0 (mm_Z below D A (wd_X9 cI cL cS cH a v_keptMany v_done v_rowsOf v_columnsOf v_folded v_wronged v_tapeMany v_textMany w_base w_at w_ends w_fault w_opened w_bentMany w_bentWrong w_moreWorn v_planned w_allWrong w_allWorn w_z v_wishedField v_isFound v_bestWrong v_bestWorn v_bestMany v_soughtBy v_sought v_soughtAt v_foundMany v_foundOrder v_isKept v_imageRows v_imageColumns v_imageFolded v_imageWronged v_bodies v_ran v_ownKind v_ownNumber v_limit v_changeWas v_changeIs w_shapeRows w_shapeColumns w_row w_column w_below w_face w_worn w_lastBend v_tape v_text w_names w_bends w_high w_to w_pileSize v_planLine v_planWay v_way1 v_bestWay v_order1 v_placeIn v_bodyKind v_trace v_shelf v_many v_items v_carried) (some (.int r)) args s) (F0 m 93 ls [.int s0, .int s1]) := by
  obtain ⟨hx, hb, hml, hown, hts, hr, hlocks, hK, hSt⟩ := id C0
  intro x2 x3 x5 s0 s1 v_rowsOf v_columnsOf v_textMany v_base v_at v_ends v_fault v_opened v_bentMany v_bentWrong v_moreWorn v_planned v_allWrong v_allWorn v_z v_limit v_shapeRows v_shapeColumns v_row v_column v_below v_face v_worn v_lastBend v_tape v_text v_names v_bends v_high v_to v_pileSize v_planLine v_planWay H locs ls hf hP hD hS hl
  unfold fX9_wind_93 at hf
  refine lv_iadd hx hb dX9_wind_93 ?_
  refine lv_topi (fun y_43 ey_43 => ?_)
  have hf := mm_nms hf ey_43
  refine lv_istore (lv' := [(4, .int y_43), (0, .ref (a 0)), (2, .int x2), (3, .int x3), (5, .int x5)]) hx hb dX9_wind_94 hl (by decide) rfl (fun ls hl => ?_)
  obtain ⟨y_44, ey_44⟩ : ∃ z : Int32, z = x5 + (1 : Int32) := ⟨_, rfl⟩
  have hf := mm_nms hf ey_44
  refine lv_iinc (v := y_44) (lv' := [(5, .int y_44), (4, .int y_43), (0, .ref (a 0)), (2, .int x2), (3, .int x3)]) hx hb dX9_wind_96 hl (k := 4) rfl (by rw [ey_44]; rfl) (by decide) rfl (fun ls hl => ?_)
  refine lv_goto (tgt := 53) hx hb dX9_wind_99 (by decide) ?_
  exact hk_53 _ _ _ _ _ _ _ _ _ _ _ _ _ _ _ _ _ _ _ _ _ _ _ _ _ _ _ _ _ _ _ _ _ _ _ _ _ H locs ls hf hP hD hS (lv_sub hl [2, 3, 4, 1, 0] rfl)

def fX9_wind_53 (N : Nat)  : Nat → Int32 → Int32 → Int32 → Int32 → Int32 → Int32 → Int32 → Int32 → Int32 → Int32 → Int32 → Int32 → Int32 → Int32 → Int32 → Int32 → Int32 → Int32 → Int32 → List Int32 → List Int32 → List Int32 → List Int32 → List Int32 → List Int32 → List Int32 → List Int32 → List Int32 → List Int32 → List Int32 → List Int32 → List Int32 → List Int32 → List Int32 → List Int32 → List Int32 → List Int32 → Option (Int32 × Int32 × Int32 × Int32 × Int32 × Int32 × Int32 × Int32 × Int32 × Int32 × Int32 × Int32 × List Int32 × List Int32 × List Int32 × List Int32 × List Int32 × List Int32 × List Int32 × List Int32 × List Int32 × List Int32 × List Int32 × List Int32 × List Int32)
  | 0 => fun _ _ _ _ _ _ _ _ _ _ _ _ _ _ _ _ _ _ _ _ _ _ _ _ _ _ _ _ _ _ _ _ _ _ _ _ _ => none
  | n + 1 => fun x2 x3 x4 x5 v_rowsOf v_columnsOf v_textMany v_base v_at v_ends v_fault v_opened v_bentMany v_bentWrong v_moreWorn v_planned v_allWrong v_allWorn v_z v_limit v_shapeRows v_shapeColumns v_row v_column v_below v_face v_worn v_lastBend v_tape v_text v_names v_bends v_high v_to v_pileSize v_planLine v_planWay =>
    mm_ck (mm_nz (1000 : Int32)) (if (x2 / (1000 : Int32)) ≤ x5 then
    (mm_ck (mm_nz (1000 : Int32)) (mm_ck (mm_nz (x2 / (1000 : Int32))) (some ((x4 / (x2 / (1000 : Int32))), v_base, v_at, v_ends, v_fault, v_opened, v_bentMany, v_bentWrong, v_moreWorn, v_allWrong, v_allWorn, v_z, v_shapeRows, v_shapeColumns, v_row, v_column, v_below, v_face, v_worn, v_lastBend, v_names, v_bends, v_high, v_to, v_pileSize))))
    else (mm_ck (mm_nz (1000 : Int32)) (mm_bd25 (fX9_goesPlan N (12 : Int32) (mm_rem x2 (1000 : Int32)) v_rowsOf v_columnsOf v_textMany v_base v_at v_ends v_fault v_opened v_bentMany v_bentWrong v_moreWorn v_planned v_allWrong v_allWorn v_z v_limit v_shapeRows v_shapeColumns v_row v_column v_below v_face v_worn v_lastBend v_tape v_text v_names v_bends v_high v_to v_pileSize v_planLine v_planWay) (fun (r_16 : Int32) (w_17 : Int32) (w_18 : Int32) (w_19 : Int32) (w_20 : Int32) (w_21 : Int32) (w_22 : Int32) (w_23 : Int32) (w_24 : Int32) (w_25 : Int32) (w_26 : Int32) (w_27 : Int32) (w_28 : List Int32) (w_29 : List Int32) (w_30 : List Int32) (w_31 : List Int32) (w_32 : List Int32) (w_33 : List Int32) (w_34 : List Int32) (w_35 : List Int32) (w_36 : List Int32) (w_37 : List Int32) (w_38 : List Int32) (w_39 : List Int32) (w_40 : List Int32) =>
    if x3 = 0 then
    (fX9_wind_93 N (fX9_wind_53 N n) x2 x3 x5 w_25 x4 v_rowsOf v_columnsOf v_textMany w_17 w_18 w_19 w_20 w_21 w_22 w_23 w_24 v_planned w_25 w_26 w_27 v_limit w_28 w_29 w_30 w_31 w_32 w_33 w_34 w_35 v_tape v_text w_36 w_37 w_38 w_39 w_40 v_planLine v_planWay)
    else (fX9_wind_93 N (fX9_wind_53 N n) x2 x3 x5 w_26 x4 v_rowsOf v_columnsOf v_textMany w_17 w_18 w_19 w_20 w_21 w_22 w_23 w_24 v_planned w_25 w_26 w_27 v_limit w_28 w_29 w_30 w_31 w_32 w_33 w_34 w_35 v_tape v_text w_36 w_37 w_38 w_39 w_40 v_planLine v_planWay)))))

set_option maxHeartbeats 4000000 in
set_option maxRecDepth 100000 in
theorem tX9_wind_53 {p : Program} {l : Launch} {e : Env} {s : State} {m : MethodId} {args : Array Value} {below : List Frame} {meth : Method} {c : Code} {D : va_G} {cI cL cS cH : ClassId} {A : Nat → Prop} {d : Nat} {a : Nat → Nat} (hd : 61 ≤ d) (C0 : mm_Cx p s m args meth c RX9 cX9_wind 7 (some .int) D (mm_T cI cL cS cH) A) (hA : ∀ q, s.heap.size ≤ q → A q) {v_keptMany : Int32} {v_done : Int32} {v_folded : Int32} {v_wronged : Int32} {v_tapeMany : Int32} {v_wishedField : Int32} {v_isFound : Bool} {v_bestWrong : Int32} {v_bestWorn : Int32} {v_bestMany : Int32} {v_soughtBy : Int32} {v_sought : Int32} {v_soughtAt : Int32} {v_foundMany : Int32} {v_foundOrder : Int32} {v_isKept : Bool} {v_imageRows : Int32} {v_imageColumns : Int32} {v_imageFolded : Int32} {v_imageWronged : Int32} {v_bodies : Int32} {v_ran : Int32} {v_ownKind : Int32} {v_ownNumber : Int32} {v_changeWas : List Int32} {v_changeIs : List Int32} {v_way1 : List Int32} {v_bestWay : List Int32} {v_order1 : List Int32} {v_placeIn : List Int32} {v_bodyKind : List Int32} {v_trace : List Int32} {v_shelf : List Int32} {v_many : List Int32} {v_items : List Int64} {v_carried : List Int64} {r : Int32} {w_base : Int32} {w_at : Int32} {w_ends : Int32} {w_fault : Int32} {w_opened : Int32} {w_bentMany : Int32} {w_bentWrong : Int32} {w_moreWorn : Int32} {w_allWrong : Int32} {w_allWorn : Int32} {w_z : Int32} {w_shapeRows : List Int32} {w_shapeColumns : List Int32} {w_row : List Int32} {w_column : List Int32} {w_below : List Int32} {w_face : List Int32} {w_worn : List Int32} {w_lastBend : List Int32} {w_names : List Int32} {w_bends : List Int32} {w_high : List Int32} {w_to : List Int32} {w_pileSize : List Int32} (N : Nat)  : ∀ (n : Nat), ∀ (x2 : Int32) (x3 : Int32) (x4 : Int32) (x5 : Int32) (v_rowsOf : Int32) (v_columnsOf : Int32) (v_textMany : Int32) (v_base : Int32) (v_at : Int32) (v_ends : Int32) (v_fault : Int32) (v_opened : Int32) (v_bentMany : Int32) (v_bentWrong : Int32) (v_moreWorn : Int32) (v_planned : Int32) (v_allWrong : Int32) (v_allWorn : Int32) (v_z : Int32) (v_limit : List Int32) (v_shapeRows : List Int32) (v_shapeColumns : List Int32) (v_row : List Int32) (v_column : List Int32) (v_below : List Int32) (v_face : List Int32) (v_worn : List Int32) (v_lastBend : List Int32) (v_tape : List Int32) (v_text : List Int32) (v_names : List Int32) (v_bends : List Int32) (v_high : List Int32) (v_to : List Int32) (v_pileSize : List Int32) (v_planLine : List Int32) (v_planWay : List Int32) (H : Heap) (locs : List Loc) (ls : Array Slot), fX9_wind_53 N n x2 x3 x4 x5 v_rowsOf v_columnsOf v_textMany v_base v_at v_ends v_fault v_opened v_bentMany v_bentWrong v_moreWorn v_planned v_allWrong v_allWorn v_z v_limit v_shapeRows v_shapeColumns v_row v_column v_below v_face v_worn v_lastBend v_tape v_text v_names v_bends v_high v_to v_pileSize v_planLine v_planWay = some (r, w_base, w_at, w_ends, w_fault, w_opened, w_bentMany, w_bentWrong, w_moreWorn, w_allWrong, w_allWorn, w_z, w_shapeRows, w_shapeColumns, w_row, w_column, w_below, w_face, w_worn, w_lastBend, w_names, w_bends, w_high, w_to, w_pileSize) → va_P D mm_cl (wd_X9 cI cL cS cH a v_keptMany v_done v_rowsOf v_columnsOf v_folded v_wronged v_tapeMany v_textMany v_base v_at v_ends v_fault v_opened v_bentMany v_bentWrong v_moreWorn v_planned v_allWrong v_allWorn v_z v_wishedField v_isFound v_bestWrong v_bestWorn v_bestMany v_soughtBy v_sought v_soughtAt v_foundMany v_foundOrder v_isKept v_imageRows v_imageColumns v_imageFolded v_imageWronged v_bodies v_ran v_ownKind v_ownNumber v_limit v_changeWas v_changeIs v_shapeRows v_shapeColumns v_row v_column v_below v_face v_worn v_lastBend v_tape v_text v_names v_bends v_high v_to v_pileSize v_planLine v_planWay v_way1 v_bestWay v_order1 v_placeIn v_bodyKind v_trace v_shelf v_many v_items v_carried) H → va_D A (wd_X9 cI cL cS cH a v_keptMany v_done v_rowsOf v_columnsOf v_folded v_wronged v_tapeMany v_textMany v_base v_at v_ends v_fault v_opened v_bentMany v_bentWrong v_moreWorn v_planned v_allWrong v_allWorn v_z v_wishedField v_isFound v_bestWrong v_bestWorn v_bestMany v_soughtBy v_sought v_soughtAt v_foundMany v_foundOrder v_isKept v_imageRows v_imageColumns v_imageFolded v_imageWronged v_bodies v_ran v_ownKind v_ownNumber v_limit v_changeWas v_changeIs v_shapeRows v_shapeColumns v_row v_column v_below v_face v_worn v_lastBend v_tape v_text v_names v_bends v_high v_to v_pileSize v_planLine v_planWay v_way1 v_bestWay v_order1 v_placeIn v_bodyKind v_trace v_shelf v_many v_items v_carried) → va_S A s.heap H locs → lv_has ls 7 [(0, .ref (a 0)), (2, .int x2), (3, .int x3), (4, .int x4), (5, .int x5)] → W p l e (mm_rr d) s m args below meth c H locs 0 0 (mm_Z below D A (wd_X9 cI cL cS cH a v_keptMany v_done v_rowsOf v_columnsOf v_folded v_wronged v_tapeMany v_textMany w_base w_at w_ends w_fault w_opened w_bentMany w_bentWrong w_moreWorn v_planned w_allWrong w_allWorn w_z v_wishedField v_isFound v_bestWrong v_bestWorn v_bestMany v_soughtBy v_sought v_soughtAt v_foundMany v_foundOrder v_isKept v_imageRows v_imageColumns v_imageFolded v_imageWronged v_bodies v_ran v_ownKind v_ownNumber v_limit v_changeWas v_changeIs w_shapeRows w_shapeColumns w_row w_column w_below w_face w_worn w_lastBend v_tape v_text w_names w_bends w_high w_to w_pileSize v_planLine v_planWay v_way1 v_bestWay v_order1 v_placeIn v_bodyKind v_trace v_shelf v_many v_items v_carried) (some (.int r)) args s) (F0 m 53 ls []) := by
  obtain ⟨hx, hb, hml, hown, hts, hr, hlocks, hK, hSt⟩ := id C0
  intro n
  induction n with
  | zero =>
    intro x2 x3 x4 x5 v_rowsOf v_columnsOf v_textMany v_base v_at v_ends v_fault v_opened v_bentMany v_bentWrong v_moreWorn v_planned v_allWrong v_allWorn v_z v_limit v_shapeRows v_shapeColumns v_row v_column v_below v_face v_worn v_lastBend v_tape v_text v_names v_bends v_high v_to v_pileSize v_planLine v_planWay H locs ls hf
    cases (show none = some _ from hf)
  | succ n ih =>
    intro x2 x3 x4 x5 v_rowsOf v_columnsOf v_textMany v_base v_at v_ends v_fault v_opened v_bentMany v_bentWrong v_moreWorn v_planned v_allWrong v_allWorn v_z v_limit v_shapeRows v_shapeColumns v_row v_column v_below v_face v_worn v_lastBend v_tape v_text v_names v_bends v_high v_to v_pileSize v_planLine v_planWay H locs ls hf hP hD hS hl
    unfold fX9_wind_53 at hf
    refine lv_iload hx hb dX9_wind_53 (lv_at hl 4 rfl) ?_
    refine lv_iload_n hx hb dX9_wind_55 rfl (lv_at hl 1 rfl) ?_
    refine lv_sipush (v := 1000) hx hb dX9_wind_56 (by decide) ?_
    obtain ⟨h_11, hf⟩ := mm_cks hf
    refine lv_idiv hx hb dX9_wind_59 (mm_nzs h_11) ?_
    refine lv_icmp_ge (tgt := 102) hx hb dX9_wind_60 (by decide) (fun c_12 => ?_) (fun c_12 => ?_)
    · have hf := mm_ip hf c_12
      refine lv_iload hx hb dX9_wind_102 (lv_at hl 3 rfl) ?_
      refine lv_iload_n hx hb dX9_wind_104 rfl (lv_at hl 1 rfl) ?_
      refine lv_sipush (v := 1000) hx hb dX9_wind_105 (by decide) ?_
      obtain ⟨h_13, hf⟩ := mm_cks hf
      refine lv_idiv hx hb dX9_wind_108 (mm_nzs h_13) ?_
      obtain ⟨h_14, hf⟩ := mm_cks hf
      refine lv_idiv hx hb dX9_wind_109 (mm_nzs h_14) ?_
      apply mm_sub25 hf
      exact mm_iret C0 hP hD hS dX9_wind_110
    · have hf := mm_in hf c_12
      refine lv_aload_n hx hb dX9_wind_63 rfl (lv_at hl 0 rfl) ?_
      refine lv_bipush (v := 12) hx hb dX9_wind_64 (by decide) ?_
      refine lv_iload_n hx hb dX9_wind_66 rfl (lv_at hl 1 rfl) ?_
      refine lv_sipush (v := 1000) hx hb dX9_wind_67 (by decide) ?_
      obtain ⟨h_15, hf⟩ := mm_cks hf
      refine lv_irem hx hb dX9_wind_70 (mm_nzs h_15) ?_
      refine mm_ct25 hf (fun r_16 w_17 w_18 w_19 w_20 w_21 w_22 w_23 w_24 w_25 w_26 w_27 w_28 w_29 w_30 w_31 w_32 w_33 w_34 w_35 w_36 w_37 w_38 w_39 w_40 hc_41 hf => ?_)
      refine mm_callVF (q0 := 0) (ci := 9) (rest := []) C0 lk_X9_292 (ctX9_goesPlan (a := a) (d := d - 1) (by omega) hc_41) (by omega) rfl hl.1 rfl (mm_cat rfl) dX9_wind_71 hP hD hA hS rfl rfl (fun H locs hP hD hS => ?_)
      refine W.eq (g2 := F0 m 74 ls [.int r_16]) rfl ?_
      refine lv_istore (lv' := [(6, .int r_16), (0, .ref (a 0)), (2, .int x2), (3, .int x3), (4, .int x4), (5, .int x5)]) hx hb dX9_wind_74 hl (by decide) rfl (fun ls hl => ?_)
      refine lv_iload hx hb dX9_wind_76 (lv_at hl 4 rfl) ?_
      refine lv_iload_n hx hb dX9_wind_78 rfl (lv_at hl 3 rfl) ?_
      refine lv_if_ne (tgt := 89) hx hb dX9_wind_79 (by decide) (fun c_42 => ?_) (fun c_42 => ?_)
      · have hf := mm_in hf c_42
        refine lv_aload_n hx hb dX9_wind_89 rfl (lv_at hl 1 rfl) ?_
        refine mm_get C0 hP iw_X9 0 rfl rfl 38 (by decide) fl_X9_285 rfl dX9_wind_90 ?_
        exact tX9_wind_93 hd C0 hA N ih _ _ _ _ _ _ _ _ _ _ _ _ _ _ _ _ _ _ _ _ _ _ _ _ _ _ _ _ _ _ _ _ _ _ _ _ _ _ H locs ls hf hP hD hS (lv_sub hl [1, 2, 3, 5] rfl)
      · have hf := mm_ip hf c_42
        refine lv_aload_n hx hb dX9_wind_82 rfl (lv_at hl 1 rfl) ?_
        refine mm_get C0 hP iw_X9 0 rfl rfl 37 (by decide) fl_X9_282 rfl dX9_wind_83 ?_
        refine lv_goto (tgt := 93) hx hb dX9_wind_86 (by decide) ?_
        exact tX9_wind_93 hd C0 hA N ih _ _ _ _ _ _ _ _ _ _ _ _ _ _ _ _ _ _ _ _ _ _ _ _ _ _ _ _ _ _ _ _ _ _ _ _ _ _ H locs ls hf hP hD hS (lv_sub hl [1, 2, 3, 5] rfl)

def fX9_wind (N : Nat) (x1 : Int32) (x2 : Int32) (x3 : Int32) (v_rowsOf : Int32) (v_columnsOf : Int32) (v_textMany : Int32) (v_base : Int32) (v_at : Int32) (v_ends : Int32) (v_fault : Int32) (v_opened : Int32) (v_bentMany : Int32) (v_bentWrong : Int32) (v_moreWorn : Int32) (v_planned : Int32) (v_allWrong : Int32) (v_allWorn : Int32) (v_z : Int32) (v_limit : List Int32) (v_shapeRows : List Int32) (v_shapeColumns : List Int32) (v_row : List Int32) (v_column : List Int32) (v_below : List Int32) (v_face : List Int32) (v_worn : List Int32) (v_lastBend : List Int32) (v_tape : List Int32) (v_text : List Int32) (v_names : List Int32) (v_bends : List Int32) (v_high : List Int32) (v_to : List Int32) (v_pileSize : List Int32) (v_planLine : List Int32) (v_planWay : List Int32) : Option (Int32 × Int32 × Int32 × Int32 × Int32 × Int32 × Int32 × Int32 × Int32 × Int32 × Int32 × Int32 × List Int32 × List Int32 × List Int32 × List Int32 × List Int32 × List Int32 × List Int32 × List Int32 × List Int32 × List Int32 × List Int32 × List Int32 × List Int32) :=
    if x2 < 0 then
    (some ((-1 : Int32), v_base, v_at, v_ends, v_fault, v_opened, v_bentMany, v_bentWrong, v_moreWorn, v_allWrong, v_allWorn, v_z, v_shapeRows, v_shapeColumns, v_row, v_column, v_below, v_face, v_worn, v_lastBend, v_names, v_bends, v_high, v_to, v_pileSize))
    else (mm_ck (mm_nz (1000 : Int32)) (mm_bd1 (fX9_within N ((x2 / (1000 : Int32)).toInt64) (1 : Int64) (20 : Int64)) (fun (r_3 : Bool) =>
    if r_3 = false then
    (some ((-1 : Int32), v_base, v_at, v_ends, v_fault, v_opened, v_bentMany, v_bentWrong, v_moreWorn, v_allWrong, v_allWorn, v_z, v_shapeRows, v_shapeColumns, v_row, v_column, v_below, v_face, v_worn, v_lastBend, v_names, v_bends, v_high, v_to, v_pileSize))
    else (mm_ck (mm_nz (1000 : Int32)) (if (100 : Int32) < (mm_rem x2 (1000 : Int32)) then
    (some ((-1 : Int32), v_base, v_at, v_ends, v_fault, v_opened, v_bentMany, v_bentWrong, v_moreWorn, v_allWrong, v_allWorn, v_z, v_shapeRows, v_shapeColumns, v_row, v_column, v_below, v_face, v_worn, v_lastBend, v_names, v_bends, v_high, v_to, v_pileSize))
    else (mm_bd1 (fX9_within N ((x3).toInt64) (0 : Int64) (1 : Int64)) (fun (r_8 : Bool) =>
    if r_8 = false then
    (some ((-1 : Int32), v_base, v_at, v_ends, v_fault, v_opened, v_bentMany, v_bentWrong, v_moreWorn, v_allWrong, v_allWorn, v_z, v_shapeRows, v_shapeColumns, v_row, v_column, v_below, v_face, v_worn, v_lastBend, v_names, v_bends, v_high, v_to, v_pileSize))
    else (fX9_wind_53 N N x2 x3 (0 : Int32) (0 : Int32) v_rowsOf v_columnsOf v_textMany v_base v_at v_ends v_fault v_opened v_bentMany v_bentWrong v_moreWorn v_planned v_allWrong v_allWorn x1 v_limit v_shapeRows v_shapeColumns v_row v_column v_below v_face v_worn v_lastBend v_tape v_text v_names v_bends v_high v_to v_pileSize v_planLine v_planWay))))))))

set_option maxHeartbeats 4000000 in
set_option maxRecDepth 100000 in
theorem ctX9_wind {l : Launch} {D : va_G} {cI cL cS cH : ClassId} {a : Nat → Nat} {x1 : Int32} {x2 : Int32} {x3 : Int32} {v_keptMany : Int32} {v_done : Int32} {v_rowsOf : Int32} {v_columnsOf : Int32} {v_folded : Int32} {v_wronged : Int32} {v_tapeMany : Int32} {v_textMany : Int32} {v_base : Int32} {v_at : Int32} {v_ends : Int32} {v_fault : Int32} {v_opened : Int32} {v_bentMany : Int32} {v_bentWrong : Int32} {v_moreWorn : Int32} {v_planned : Int32} {v_allWrong : Int32} {v_allWorn : Int32} {v_z : Int32} {v_wishedField : Int32} {v_isFound : Bool} {v_bestWrong : Int32} {v_bestWorn : Int32} {v_bestMany : Int32} {v_soughtBy : Int32} {v_sought : Int32} {v_soughtAt : Int32} {v_foundMany : Int32} {v_foundOrder : Int32} {v_isKept : Bool} {v_imageRows : Int32} {v_imageColumns : Int32} {v_imageFolded : Int32} {v_imageWronged : Int32} {v_bodies : Int32} {v_ran : Int32} {v_ownKind : Int32} {v_ownNumber : Int32} {v_limit : List Int32} {v_changeWas : List Int32} {v_changeIs : List Int32} {v_shapeRows : List Int32} {v_shapeColumns : List Int32} {v_row : List Int32} {v_column : List Int32} {v_below : List Int32} {v_face : List Int32} {v_worn : List Int32} {v_lastBend : List Int32} {v_tape : List Int32} {v_text : List Int32} {v_names : List Int32} {v_bends : List Int32} {v_high : List Int32} {v_to : List Int32} {v_pileSize : List Int32} {v_planLine : List Int32} {v_planWay : List Int32} {v_way1 : List Int32} {v_bestWay : List Int32} {v_order1 : List Int32} {v_placeIn : List Int32} {v_bodyKind : List Int32} {v_trace : List Int32} {v_shelf : List Int32} {v_many : List Int32} {v_items : List Int64} {v_carried : List Int64} {r : Int32} {w_base : Int32} {w_at : Int32} {w_ends : Int32} {w_fault : Int32} {w_opened : Int32} {w_bentMany : Int32} {w_bentWrong : Int32} {w_moreWorn : Int32} {w_allWrong : Int32} {w_allWorn : Int32} {w_z : Int32} {w_shapeRows : List Int32} {w_shapeColumns : List Int32} {w_row : List Int32} {w_column : List Int32} {w_below : List Int32} {w_face : List Int32} {w_worn : List Int32} {w_lastBend : List Int32} {w_names : List Int32} {w_bends : List Int32} {w_high : List Int32} {w_to : List Int32} {w_pileSize : List Int32} {N d : Nat} (hd : 61 ≤ d) (hf : fX9_wind N x1 x2 x3 v_rowsOf v_columnsOf v_textMany v_base v_at v_ends v_fault v_opened v_bentMany v_bentWrong v_moreWorn v_planned v_allWrong v_allWorn v_z v_limit v_shapeRows v_shapeColumns v_row v_column v_below v_face v_worn v_lastBend v_tape v_text v_names v_bends v_high v_to v_pileSize v_planLine v_planWay = some (r, w_base, w_at, w_ends, w_fault, w_opened, w_bentMany, w_bentWrong, w_moreWorn, w_allWrong, w_allWorn, w_z, w_shapeRows, w_shapeColumns, w_row, w_column, w_below, w_face, w_worn, w_lastBend, w_names, w_bends, w_high, w_to, w_pileSize)) : mm_Ct l yX9_wind cX9_wind 7 (some .int) d D (mm_T cI cL cS cH) [.ref (a 0), .int x1, .int x2, .int x3] (wd_X9 cI cL cS cH a v_keptMany v_done v_rowsOf v_columnsOf v_folded v_wronged v_tapeMany v_textMany v_base v_at v_ends v_fault v_opened v_bentMany v_bentWrong v_moreWorn v_planned v_allWrong v_allWorn v_z v_wishedField v_isFound v_bestWrong v_bestWorn v_bestMany v_soughtBy v_sought v_soughtAt v_foundMany v_foundOrder v_isKept v_imageRows v_imageColumns v_imageFolded v_imageWronged v_bodies v_ran v_ownKind v_ownNumber v_limit v_changeWas v_changeIs v_shapeRows v_shapeColumns v_row v_column v_below v_face v_worn v_lastBend v_tape v_text v_names v_bends v_high v_to v_pileSize v_planLine v_planWay v_way1 v_bestWay v_order1 v_placeIn v_bodyKind v_trace v_shelf v_many v_items v_carried) (wd_X9 cI cL cS cH a v_keptMany v_done v_rowsOf v_columnsOf v_folded v_wronged v_tapeMany v_textMany w_base w_at w_ends w_fault w_opened w_bentMany w_bentWrong w_moreWorn v_planned w_allWrong w_allWorn w_z v_wishedField v_isFound v_bestWrong v_bestWorn v_bestMany v_soughtBy v_sought v_soughtAt v_foundMany v_foundOrder v_isKept v_imageRows v_imageColumns v_imageFolded v_imageWronged v_bodies v_ran v_ownKind v_ownNumber v_limit v_changeWas v_changeIs w_shapeRows w_shapeColumns w_row w_column w_below w_face w_worn w_lastBend v_tape v_text w_names w_bends w_high w_to w_pileSize v_planLine v_planWay v_way1 v_bestWay v_order1 v_placeIn v_bodyKind v_trace v_shelf v_many v_items v_carried) (some (.int r)) := by
  refine mm_of (by decide) (Nat.le_of_ble_eq_true rfl) ?_
  intro p e s m args below meth c A H locs ls C0 hP hD hA hS hl
  have C0 : mm_Cx p s m args meth c RX9 cX9_wind 7 (some .int) D (mm_T cI cL cS cH) A := C0
  obtain ⟨hx, hb, hml, hown, hts, hr, hlocks, hK, hSt⟩ := id C0
  have hl : lv_has ls 7 [(0, .ref (a 0)), (1, .int x1), (2, .int x2), (3, .int x3)] := hl
  unfold fX9_wind at hf
  refine lv_iload_n hx hb dX9_wind_0 rfl (lv_at hl 2 rfl) ?_
  refine lv_if_lt (tgt := 40) hx hb dX9_wind_1 (by decide) (fun c_1 => ?_) (fun c_1 => ?_)
  · have hf := mm_ip hf c_1
    refine lv_iconst (v := -1) hx hb dX9_wind_40 (by decide) ?_
    apply mm_sub25 hf
    exact mm_iret C0 hP hD hS dX9_wind_41
  · have hf := mm_in hf c_1
    refine lv_iload_n hx hb dX9_wind_4 rfl (lv_at hl 2 rfl) ?_
    refine lv_sipush (v := 1000) hx hb dX9_wind_5 (by decide) ?_
    obtain ⟨h_2, hf⟩ := mm_cks hf
    refine lv_idiv hx hb dX9_wind_8 (mm_nzs h_2) ?_
    refine lv_i2l hx hb dX9_wind_9 rfl ?_
    refine lv_lconst (v := 1) hx hb dX9_wind_10 (by decide) ?_
    refine lv_ldc2 hx hb hown (hts _ kc_X9_335) dX9_wind_11 ?_
    obtain ⟨r_3, hc_4, hf⟩ := mm_bd1s hf
    refine mm_callS0 (rest := []) C0 lk_X9_111 (ctX9_within (d := d - 1) (by omega) hc_4) (by omega) rfl hl.1 rfl (mm_cat rfl) dX9_wind_14 hP hD hA hS (fun H locs hP hS => ?_)
    refine W.eq (g2 := F0 m 17 ls [.int (mm_b r_3)]) rfl ?_
    refine lv_if_eq (tgt := 40) hx hb dX9_wind_17 (by decide) (fun c_5 => ?_) (fun c_5 => ?_)
    · have hf := mm_ip hf (mm_b0 c_5)
      refine lv_iconst (v := -1) hx hb dX9_wind_40 (by decide) ?_
      apply mm_sub25 hf
      exact mm_iret C0 hP hD hS dX9_wind_41
    · have hf := mm_in hf (mm_b1 c_5)
      refine lv_iload_n hx hb dX9_wind_20 rfl (lv_at hl 2 rfl) ?_
      refine lv_sipush (v := 1000) hx hb dX9_wind_21 (by decide) ?_
      obtain ⟨h_6, hf⟩ := mm_cks hf
      refine lv_irem hx hb dX9_wind_24 (mm_nzs h_6) ?_
      refine lv_bipush (v := 100) hx hb dX9_wind_25 (by decide) ?_
      refine lv_icmp_gt (tgt := 40) hx hb dX9_wind_27 (by decide) (fun c_7 => ?_) (fun c_7 => ?_)
      · have hf := mm_ip hf c_7
        refine lv_iconst (v := -1) hx hb dX9_wind_40 (by decide) ?_
        apply mm_sub25 hf
        exact mm_iret C0 hP hD hS dX9_wind_41
      · have hf := mm_in hf c_7
        refine lv_iload_n hx hb dX9_wind_30 rfl (lv_at hl 3 rfl) ?_
        refine lv_i2l hx hb dX9_wind_31 rfl ?_
        refine lv_lconst (v := 0) hx hb dX9_wind_32 (by decide) ?_
        refine lv_lconst (v := 1) hx hb dX9_wind_33 (by decide) ?_
        obtain ⟨r_8, hc_9, hf⟩ := mm_bd1s hf
        refine mm_callS0 (rest := []) C0 lk_X9_111 (ctX9_within (d := d - 1) (by omega) hc_9) (by omega) rfl hl.1 rfl (mm_cat rfl) dX9_wind_34 hP hD hA hS (fun H locs hP hS => ?_)
        refine W.eq (g2 := F0 m 37 ls [.int (mm_b r_8)]) rfl ?_
        refine lv_if_ne (tgt := 42) hx hb dX9_wind_37 (by decide) (fun c_10 => ?_) (fun c_10 => ?_)
        · have hf := mm_in hf (mm_b1 c_10)
          refine lv_aload_n hx hb dX9_wind_42 rfl (lv_at hl 0 rfl) ?_
          refine lv_iload_n hx hb dX9_wind_43 rfl (lv_at hl 1 rfl) ?_
          refine mm_put C0 hP hD hS iw_X9 tyX9 tyX9_ok nmX9 0 rfl rfl 39 (by decide) fl_X9_288 rfl rfl rfl (Nat.le_of_ble_eq_true rfl) dX9_wind_44 (w2 := (wd_X9 cI cL cS cH a v_keptMany v_done v_rowsOf v_columnsOf v_folded v_wronged v_tapeMany v_textMany v_base v_at v_ends v_fault v_opened v_bentMany v_bentWrong v_moreWorn v_planned v_allWrong v_allWorn x1 v_wishedField v_isFound v_bestWrong v_bestWorn v_bestMany v_soughtBy v_sought v_soughtAt v_foundMany v_foundOrder v_isKept v_imageRows v_imageColumns v_imageFolded v_imageWronged v_bodies v_ran v_ownKind v_ownNumber v_limit v_changeWas v_changeIs v_shapeRows v_shapeColumns v_row v_column v_below v_face v_worn v_lastBend v_tape v_text v_names v_bends v_high v_to v_pileSize v_planLine v_planWay v_way1 v_bestWay v_order1 v_placeIn v_bodyKind v_trace v_shelf v_many v_items v_carried)) rfl (fun H locs hP hD hS => ?_)
          refine lv_iconst (v := 0) hx hb dX9_wind_47 (by decide) ?_
          refine lv_istore (lv' := [(4, .int (0 : Int32)), (0, .ref (a 0)), (1, .int x1), (2, .int x2), (3, .int x3)]) hx hb dX9_wind_48 hl (by decide) rfl (fun ls hl => ?_)
          refine lv_iconst (v := 0) hx hb dX9_wind_50 (by decide) ?_
          refine lv_istore (lv' := [(5, .int (0 : Int32)), (4, .int (0 : Int32)), (0, .ref (a 0)), (1, .int x1), (2, .int x2), (3, .int x3)]) hx hb dX9_wind_51 hl (by decide) rfl (fun ls hl => ?_)
          exact tX9_wind_53 hd C0 hA N  N _ _ _ _ _ _ _ _ _ _ _ _ _ _ _ _ _ _ _ _ _ _ _ _ _ _ _ _ _ _ _ _ _ _ _ _ _ H locs ls hf hP hD hS (lv_sub hl [2, 4, 5, 1, 0] rfl)
        · have hf := mm_ip hf (mm_b0 c_10)
          refine lv_iconst (v := -1) hx hb dX9_wind_40 (by decide) ?_
          apply mm_sub25 hf
          exact mm_iret C0 hP hD hS dX9_wind_41

theorem nb_dX9_isStrip_0 : bls_w cX9_isStrip [(0, [26]), (1, [133]), (2, [20, 0, 247]), (5, [20, 0, 238]), (8, [184, 0, 111]), (11, [172])] := bls_of (by decide +kernel)
theorem dX9_isStrip_0 : decode cX9_isStrip 0 = .ok (.iload_n 0, 1) := op_26 nb_dX9_isStrip_0.1
theorem dX9_isStrip_1 : decode cX9_isStrip 1 = .ok (.i2l, 1) := op_133 nb_dX9_isStrip_0.2.1
set_option maxRecDepth 100000 in
theorem dX9_isStrip_2 : decode cX9_isStrip 2 = .ok (.ldc2_w 247, 3) := (op_20 nb_dX9_isStrip_0.2.2.1).trans rfl
set_option maxRecDepth 100000 in
theorem dX9_isStrip_5 : decode cX9_isStrip 5 = .ok (.ldc2_w 238, 3) := (op_20 nb_dX9_isStrip_0.2.2.2.1).trans rfl
set_option maxRecDepth 100000 in
theorem dX9_isStrip_8 : decode cX9_isStrip 8 = .ok (.invokestatic 111, 3) := (op_184 nb_dX9_isStrip_0.2.2.2.2.1).trans rfl
theorem dX9_isStrip_11 : decode cX9_isStrip 11 = .ok (.ireturn, 1) := op_172 nb_dX9_isStrip_0.2.2.2.2.2.1
def fX9_isStrip (N : Nat) (x0 : Int32) : Option (Bool) :=
    mm_bd1 (fX9_within N ((x0).toInt64) (2 : Int64) (7 : Int64)) (fun (r_1 : Bool) =>
    some (r_1))

set_option maxHeartbeats 4000000 in
set_option maxRecDepth 100000 in
theorem ctX9_isStrip {l : Launch} {D : va_G} {cI cL cS cH : ClassId} {x0 : Int32}  {r : Bool} {N d : Nat} (hd : 2 ≤ d) (hf : fX9_isStrip N x0 = some r) : mm_Ct l yX9_isStrip cX9_isStrip 1 (some .boolean) d D (mm_T cI cL cS cH) [.int x0] ([] : va_W) ([] : va_W) (some (.int (mm_b r))) := by
  refine mm_of (by decide) (Nat.le_of_ble_eq_true rfl) ?_
  intro p e s m args below meth c A H locs ls C0 hP hD hA hS hl
  have C0 : mm_Cx p s m args meth c RX9 cX9_isStrip 1 (some .boolean) D (mm_T cI cL cS cH) A := C0
  obtain ⟨hx, hb, hml, hown, hts, hr, hlocks, hK, hSt⟩ := id C0
  have hl : lv_has ls 1 [(0, .int x0)] := hl
  unfold fX9_isStrip at hf
  refine lv_iload_n hx hb dX9_isStrip_0 rfl (lv_at hl 0 rfl) ?_
  refine lv_i2l hx hb dX9_isStrip_1 rfl ?_
  refine lv_ldc2 hx hb hown (hts _ kc_X9_247) dX9_isStrip_2 ?_
  refine lv_ldc2 hx hb hown (hts _ kc_X9_238) dX9_isStrip_5 ?_
  obtain ⟨r_1, hc_2, hf⟩ := mm_bd1s hf
  refine mm_callS0 (rest := []) C0 lk_X9_111 (ctX9_within (d := d - 1) (by omega) hc_2) (by omega) rfl hl.1 rfl (mm_cat rfl) dX9_isStrip_8 hP hD hA hS (fun H locs hP hS => ?_)
  refine W.eq (g2 := F0 m 11 ls [.int (mm_b r_1)]) rfl ?_
  obtain rfl := mm_inj1 hf
  exact mm_zret C0 hP hD hS dX9_isStrip_11 rfl

theorem nb_dX9_isOrder_0 : bls_w cX9_isOrder [(0, [3]), (1, [62]), (2, [28]), (3, [54, 4]), (5, [27]), (6, [4]), (7, [100]), (8, [54, 5]), (10, [21, 5]), (12, [155, 0, 81]), (15, [21, 4]), (17, [16, 10])] := bls_of (by decide +kernel)
theorem dX9_isOrder_0 : decode cX9_isOrder 0 = .ok (.iconst 0, 1) := op_3 nb_dX9_isOrder_0.1
theorem dX9_isOrder_1 : decode cX9_isOrder 1 = .ok (.istore_n 3, 1) := op_62 nb_dX9_isOrder_0.2.1
theorem dX9_isOrder_2 : decode cX9_isOrder 2 = .ok (.iload_n 2, 1) := op_28 nb_dX9_isOrder_0.2.2.1
set_option maxRecDepth 100000 in
theorem dX9_isOrder_3 : decode cX9_isOrder 3 = .ok (.istore 4, 2) := (op_54 nb_dX9_isOrder_0.2.2.2.1).trans rfl
theorem dX9_isOrder_5 : decode cX9_isOrder 5 = .ok (.iload_n 1, 1) := op_27 nb_dX9_isOrder_0.2.2.2.2.1
theorem dX9_isOrder_6 : decode cX9_isOrder 6 = .ok (.iconst 1, 1) := op_4 nb_dX9_isOrder_0.2.2.2.2.2.1
theorem dX9_isOrder_7 : decode cX9_isOrder 7 = .ok (.isub, 1) := op_100 nb_dX9_isOrder_0.2.2.2.2.2.2.1
set_option maxRecDepth 100000 in
theorem dX9_isOrder_8 : decode cX9_isOrder 8 = .ok (.istore 5, 2) := (op_54 nb_dX9_isOrder_0.2.2.2.2.2.2.2.1).trans rfl
set_option maxRecDepth 100000 in
theorem dX9_isOrder_10 : decode cX9_isOrder 10 = .ok (.iload 5, 2) := (op_21 nb_dX9_isOrder_0.2.2.2.2.2.2.2.2.1).trans rfl
set_option maxRecDepth 100000 in
theorem dX9_isOrder_12 : decode cX9_isOrder 12 = .ok (.ifCond .lt 81, 3) := (op_155 nb_dX9_isOrder_0.2.2.2.2.2.2.2.2.2.1).trans rfl
set_option maxRecDepth 100000 in
theorem dX9_isOrder_15 : decode cX9_isOrder 15 = .ok (.iload 4, 2) := (op_21 nb_dX9_isOrder_0.2.2.2.2.2.2.2.2.2.2.1).trans rfl
set_option maxRecDepth 100000 in
theorem dX9_isOrder_17 : decode cX9_isOrder 17 = .ok (.bipush 10, 2) := (op_16 nb_dX9_isOrder_0.2.2.2.2.2.2.2.2.2.2.2.1).trans rfl
theorem nb_dX9_isOrder_19 : bls_w cX9_isOrder [(19, [112]), (20, [4]), (21, [100]), (22, [54, 6]), (24, [21, 4]), (26, [158, 0, 27]), (29, [21, 6]), (31, [133]), (32, [9]), (33, [27]), (34, [4]), (35, [100])] := bls_of (by decide +kernel)
theorem dX9_isOrder_19 : decode cX9_isOrder 19 = .ok (.irem, 1) := op_112 nb_dX9_isOrder_19.1
theorem dX9_isOrder_20 : decode cX9_isOrder 20 = .ok (.iconst 1, 1) := op_4 nb_dX9_isOrder_19.2.1
theorem dX9_isOrder_21 : decode cX9_isOrder 21 = .ok (.isub, 1) := op_100 nb_dX9_isOrder_19.2.2.1
set_option maxRecDepth 100000 in
theorem dX9_isOrder_22 : decode cX9_isOrder 22 = .ok (.istore 6, 2) := (op_54 nb_dX9_isOrder_19.2.2.2.1).trans rfl
set_option maxRecDepth 100000 in
theorem dX9_isOrder_24 : decode cX9_isOrder 24 = .ok (.iload 4, 2) := (op_21 nb_dX9_isOrder_19.2.2.2.2.1).trans rfl
set_option maxRecDepth 100000 in
theorem dX9_isOrder_26 : decode cX9_isOrder 26 = .ok (.ifCond .le 27, 3) := (op_158 nb_dX9_isOrder_19.2.2.2.2.2.1).trans rfl
set_option maxRecDepth 100000 in
theorem dX9_isOrder_29 : decode cX9_isOrder 29 = .ok (.iload 6, 2) := (op_21 nb_dX9_isOrder_19.2.2.2.2.2.2.1).trans rfl
theorem dX9_isOrder_31 : decode cX9_isOrder 31 = .ok (.i2l, 1) := op_133 nb_dX9_isOrder_19.2.2.2.2.2.2.2.1
theorem dX9_isOrder_32 : decode cX9_isOrder 32 = .ok (.lconst 0, 1) := op_9 nb_dX9_isOrder_19.2.2.2.2.2.2.2.2.1
theorem dX9_isOrder_33 : decode cX9_isOrder 33 = .ok (.iload_n 1, 1) := op_27 nb_dX9_isOrder_19.2.2.2.2.2.2.2.2.2.1
theorem dX9_isOrder_34 : decode cX9_isOrder 34 = .ok (.iconst 1, 1) := op_4 nb_dX9_isOrder_19.2.2.2.2.2.2.2.2.2.2.1
theorem dX9_isOrder_35 : decode cX9_isOrder 35 = .ok (.isub, 1) := op_100 nb_dX9_isOrder_19.2.2.2.2.2.2.2.2.2.2.2.1
theorem nb_dX9_isOrder_36 : bls_w cX9_isOrder [(36, [133]), (37, [184, 0, 111]), (40, [153, 0, 13]), (43, [29]), (44, [21, 6]), (46, [122]), (47, [4]), (48, [126]), (49, [4]), (50, [160, 0, 5]), (53, [3]), (54, [172])] := bls_of (by decide +kernel)
theorem dX9_isOrder_36 : decode cX9_isOrder 36 = .ok (.i2l, 1) := op_133 nb_dX9_isOrder_36.1
set_option maxRecDepth 100000 in
theorem dX9_isOrder_37 : decode cX9_isOrder 37 = .ok (.invokestatic 111, 3) := (op_184 nb_dX9_isOrder_36.2.1).trans rfl
set_option maxRecDepth 100000 in
theorem dX9_isOrder_40 : decode cX9_isOrder 40 = .ok (.ifCond .eq 13, 3) := (op_153 nb_dX9_isOrder_36.2.2.1).trans rfl
theorem dX9_isOrder_43 : decode cX9_isOrder 43 = .ok (.iload_n 3, 1) := op_29 nb_dX9_isOrder_36.2.2.2.1
set_option maxRecDepth 100000 in
theorem dX9_isOrder_44 : decode cX9_isOrder 44 = .ok (.iload 6, 2) := (op_21 nb_dX9_isOrder_36.2.2.2.2.1).trans rfl
theorem dX9_isOrder_46 : decode cX9_isOrder 46 = .ok (.ishr, 1) := op_122 nb_dX9_isOrder_36.2.2.2.2.2.1
theorem dX9_isOrder_47 : decode cX9_isOrder 47 = .ok (.iconst 1, 1) := op_4 nb_dX9_isOrder_36.2.2.2.2.2.2.1
theorem dX9_isOrder_48 : decode cX9_isOrder 48 = .ok (.iand, 1) := op_126 nb_dX9_isOrder_36.2.2.2.2.2.2.2.1
theorem dX9_isOrder_49 : decode cX9_isOrder 49 = .ok (.iconst 1, 1) := op_4 nb_dX9_isOrder_36.2.2.2.2.2.2.2.2.1
set_option maxRecDepth 100000 in
theorem dX9_isOrder_50 : decode cX9_isOrder 50 = .ok (.if_icmp .ne 5, 3) := (op_160 nb_dX9_isOrder_36.2.2.2.2.2.2.2.2.2.1).trans rfl
theorem dX9_isOrder_53 : decode cX9_isOrder 53 = .ok (.iconst 0, 1) := op_3 nb_dX9_isOrder_36.2.2.2.2.2.2.2.2.2.2.1
theorem dX9_isOrder_54 : decode cX9_isOrder 54 = .ok (.ireturn, 1) := op_172 nb_dX9_isOrder_36.2.2.2.2.2.2.2.2.2.2.2.1
theorem nb_dX9_isOrder_55 : bls_w cX9_isOrder [(55, [29]), (56, [4]), (57, [21, 6]), (59, [120]), (60, [128]), (61, [62]), (62, [42]), (63, [180, 0, 76]), (66, [21, 5]), (68, [21, 6]), (70, [79]), (71, [42])] := bls_of (by decide +kernel)
theorem dX9_isOrder_55 : decode cX9_isOrder 55 = .ok (.iload_n 3, 1) := op_29 nb_dX9_isOrder_55.1
theorem dX9_isOrder_56 : decode cX9_isOrder 56 = .ok (.iconst 1, 1) := op_4 nb_dX9_isOrder_55.2.1
set_option maxRecDepth 100000 in
theorem dX9_isOrder_57 : decode cX9_isOrder 57 = .ok (.iload 6, 2) := (op_21 nb_dX9_isOrder_55.2.2.1).trans rfl
theorem dX9_isOrder_59 : decode cX9_isOrder 59 = .ok (.ishl, 1) := op_120 nb_dX9_isOrder_55.2.2.2.1
theorem dX9_isOrder_60 : decode cX9_isOrder 60 = .ok (.ior, 1) := op_128 nb_dX9_isOrder_55.2.2.2.2.1
theorem dX9_isOrder_61 : decode cX9_isOrder 61 = .ok (.istore_n 3, 1) := op_62 nb_dX9_isOrder_55.2.2.2.2.2.1
theorem dX9_isOrder_62 : decode cX9_isOrder 62 = .ok (.aload_n 0, 1) := op_42 nb_dX9_isOrder_55.2.2.2.2.2.2.1
set_option maxRecDepth 100000 in
theorem dX9_isOrder_63 : decode cX9_isOrder 63 = .ok (.getfield 76, 3) := (op_180 nb_dX9_isOrder_55.2.2.2.2.2.2.2.1).trans rfl
set_option maxRecDepth 100000 in
theorem dX9_isOrder_66 : decode cX9_isOrder 66 = .ok (.iload 5, 2) := (op_21 nb_dX9_isOrder_55.2.2.2.2.2.2.2.2.1).trans rfl
set_option maxRecDepth 100000 in
theorem dX9_isOrder_68 : decode cX9_isOrder 68 = .ok (.iload 6, 2) := (op_21 nb_dX9_isOrder_55.2.2.2.2.2.2.2.2.2.1).trans rfl
theorem dX9_isOrder_70 : decode cX9_isOrder 70 = .ok (.iastore, 1) := op_79 nb_dX9_isOrder_55.2.2.2.2.2.2.2.2.2.2.1
theorem dX9_isOrder_71 : decode cX9_isOrder 71 = .ok (.aload_n 0, 1) := op_42 nb_dX9_isOrder_55.2.2.2.2.2.2.2.2.2.2.2.1
theorem nb_dX9_isOrder_72 : bls_w cX9_isOrder [(72, [180, 0, 79]), (75, [21, 6]), (77, [21, 5]), (79, [79]), (80, [21, 4]), (82, [16, 10]), (84, [108]), (85, [54, 4]), (87, [132, 5, 255]), (90, [167, 255, 176]), (93, [21, 4]), (95, [154, 0, 7])] := bls_of (by decide +kernel)
set_option maxRecDepth 100000 in
theorem dX9_isOrder_72 : decode cX9_isOrder 72 = .ok (.getfield 79, 3) := (op_180 nb_dX9_isOrder_72.1).trans rfl
set_option maxRecDepth 100000 in
theorem dX9_isOrder_75 : decode cX9_isOrder 75 = .ok (.iload 6, 2) := (op_21 nb_dX9_isOrder_72.2.1).trans rfl
set_option maxRecDepth 100000 in
theorem dX9_isOrder_77 : decode cX9_isOrder 77 = .ok (.iload 5, 2) := (op_21 nb_dX9_isOrder_72.2.2.1).trans rfl
theorem dX9_isOrder_79 : decode cX9_isOrder 79 = .ok (.iastore, 1) := op_79 nb_dX9_isOrder_72.2.2.2.1
set_option maxRecDepth 100000 in
theorem dX9_isOrder_80 : decode cX9_isOrder 80 = .ok (.iload 4, 2) := (op_21 nb_dX9_isOrder_72.2.2.2.2.1).trans rfl
set_option maxRecDepth 100000 in
theorem dX9_isOrder_82 : decode cX9_isOrder 82 = .ok (.bipush 10, 2) := (op_16 nb_dX9_isOrder_72.2.2.2.2.2.1).trans rfl
theorem dX9_isOrder_84 : decode cX9_isOrder 84 = .ok (.idiv, 1) := op_108 nb_dX9_isOrder_72.2.2.2.2.2.2.1
set_option maxRecDepth 100000 in
theorem dX9_isOrder_85 : decode cX9_isOrder 85 = .ok (.istore 4, 2) := (op_54 nb_dX9_isOrder_72.2.2.2.2.2.2.2.1).trans rfl
set_option maxRecDepth 100000 in
theorem dX9_isOrder_87 : decode cX9_isOrder 87 = .ok (.iinc 5 (-1), 3) := (op_132 nb_dX9_isOrder_72.2.2.2.2.2.2.2.2.1).trans rfl
set_option maxRecDepth 100000 in
theorem dX9_isOrder_90 : decode cX9_isOrder 90 = .ok (.goto (-80), 3) := (op_167 nb_dX9_isOrder_72.2.2.2.2.2.2.2.2.2.1).trans rfl
set_option maxRecDepth 100000 in
theorem dX9_isOrder_93 : decode cX9_isOrder 93 = .ok (.iload 4, 2) := (op_21 nb_dX9_isOrder_72.2.2.2.2.2.2.2.2.2.2.1).trans rfl
set_option maxRecDepth 100000 in
theorem dX9_isOrder_95 : decode cX9_isOrder 95 = .ok (.ifCond .ne 7, 3) := (op_154 nb_dX9_isOrder_72.2.2.2.2.2.2.2.2.2.2.2.1).trans rfl
theorem nb_dX9_isOrder_98 : bls_w cX9_isOrder [(98, [4]), (99, [167, 0, 4]), (102, [3]), (103, [172])] := bls_of (by decide +kernel)
theorem dX9_isOrder_98 : decode cX9_isOrder 98 = .ok (.iconst 1, 1) := op_4 nb_dX9_isOrder_98.1
set_option maxRecDepth 100000 in
theorem dX9_isOrder_99 : decode cX9_isOrder 99 = .ok (.goto 4, 3) := (op_167 nb_dX9_isOrder_98.2.1).trans rfl
theorem dX9_isOrder_102 : decode cX9_isOrder 102 = .ok (.iconst 0, 1) := op_3 nb_dX9_isOrder_98.2.2.1
theorem dX9_isOrder_103 : decode cX9_isOrder 103 = .ok (.ireturn, 1) := op_172 nb_dX9_isOrder_98.2.2.2.1
def fX9_isOrder_10 (N : Nat)  : Nat → Int32 → Int32 → Int32 → Int32 → List Int32 → List Int32 → Option (Bool × List Int32 × List Int32)
  | 0 => fun _ _ _ _ _ _ => none
  | n + 1 => fun x1 x3 x4 x5 v_order1 v_placeIn =>
    if x5 < 0 then
    (if x4 = 0 then
    (some (true, v_order1, v_placeIn))
    else (some (false, v_order1, v_placeIn)))
    else (mm_ck (mm_nz (10 : Int32)) (mm_nm (((mm_rem x4 (10 : Int32)) - (1 : Int32))) (fun (y_5 : Int32) =>
    if x4 ≤ 0 then
    (some (false, v_order1, v_placeIn))
    else (mm_bd1 (fX9_within N ((y_5).toInt64) (0 : Int64) ((x1 - (1 : Int32)).toInt64)) (fun (r_7 : Bool) =>
    if r_7 = false then
    (some (false, v_order1, v_placeIn))
    else (if ((x3 >>> (y_5 &&& 31)) &&& (1 : Int32)) = (1 : Int32) then
    (some (false, v_order1, v_placeIn))
    else (mm_nm ((x3 ||| ((1 : Int32) <<< (y_5 &&& 31)))) (fun (y_11 : Int32) =>
    mm_ck (mm_inb x5 v_order1.length) (mm_nm (mm_is v_order1 x5 y_5) (fun (l_13 : List Int32) =>
    mm_ck (mm_inb y_5 v_placeIn.length) (mm_nm (mm_is v_placeIn y_5 x5) (fun (l_15 : List Int32) =>
    mm_ck (mm_nz (10 : Int32)) (mm_nm ((x4 / (10 : Int32))) (fun (y_17 : Int32) =>
    mm_nm (x5 + (-1 : Int32)) (fun (y_18 : Int32) =>
    fX9_isOrder_10 N n x1 y_11 y_17 y_18 l_13 l_15)))))))))))))))

set_option maxHeartbeats 4000000 in
set_option maxRecDepth 100000 in
theorem tX9_isOrder_10 {p : Program} {l : Launch} {e : Env} {s : State} {m : MethodId} {args : Array Value} {below : List Frame} {meth : Method} {c : Code} {D : va_G} {cI cL cS cH : ClassId} {A : Nat → Prop} {d : Nat} {a : Nat → Nat} (hd : 2 ≤ d) (C0 : mm_Cx p s m args meth c RX9 cX9_isOrder 7 (some .boolean) D (mm_T cI cL cS cH) A) (hA : ∀ q, s.heap.size ≤ q → A q) {v_keptMany : Int32} {v_done : Int32} {v_rowsOf : Int32} {v_columnsOf : Int32} {v_folded : Int32} {v_wronged : Int32} {v_tapeMany : Int32} {v_textMany : Int32} {v_base : Int32} {v_at : Int32} {v_ends : Int32} {v_fault : Int32} {v_opened : Int32} {v_bentMany : Int32} {v_bentWrong : Int32} {v_moreWorn : Int32} {v_planned : Int32} {v_allWrong : Int32} {v_allWorn : Int32} {v_z : Int32} {v_wishedField : Int32} {v_isFound : Bool} {v_bestWrong : Int32} {v_bestWorn : Int32} {v_bestMany : Int32} {v_soughtBy : Int32} {v_sought : Int32} {v_soughtAt : Int32} {v_foundMany : Int32} {v_foundOrder : Int32} {v_isKept : Bool} {v_imageRows : Int32} {v_imageColumns : Int32} {v_imageFolded : Int32} {v_imageWronged : Int32} {v_bodies : Int32} {v_ran : Int32} {v_ownKind : Int32} {v_ownNumber : Int32} {v_limit : List Int32} {v_changeWas : List Int32} {v_changeIs : List Int32} {v_shapeRows : List Int32} {v_shapeColumns : List Int32} {v_row : List Int32} {v_column : List Int32} {v_below : List Int32} {v_face : List Int32} {v_worn : List Int32} {v_lastBend : List Int32} {v_tape : List Int32} {v_text : List Int32} {v_names : List Int32} {v_bends : List Int32} {v_high : List Int32} {v_to : List Int32} {v_pileSize : List Int32} {v_planLine : List Int32} {v_planWay : List Int32} {v_way1 : List Int32} {v_bestWay : List Int32} {v_bodyKind : List Int32} {v_trace : List Int32} {v_shelf : List Int32} {v_many : List Int32} {v_items : List Int64} {v_carried : List Int64} {r : Bool} {w_order1 : List Int32} {w_placeIn : List Int32} (N : Nat)  : ∀ (n : Nat), ∀ (x1 : Int32) (x3 : Int32) (x4 : Int32) (x5 : Int32) (v_order1 : List Int32) (v_placeIn : List Int32) (H : Heap) (locs : List Loc) (ls : Array Slot), fX9_isOrder_10 N n x1 x3 x4 x5 v_order1 v_placeIn = some (r, w_order1, w_placeIn) → va_P D mm_cl (wd_X9 cI cL cS cH a v_keptMany v_done v_rowsOf v_columnsOf v_folded v_wronged v_tapeMany v_textMany v_base v_at v_ends v_fault v_opened v_bentMany v_bentWrong v_moreWorn v_planned v_allWrong v_allWorn v_z v_wishedField v_isFound v_bestWrong v_bestWorn v_bestMany v_soughtBy v_sought v_soughtAt v_foundMany v_foundOrder v_isKept v_imageRows v_imageColumns v_imageFolded v_imageWronged v_bodies v_ran v_ownKind v_ownNumber v_limit v_changeWas v_changeIs v_shapeRows v_shapeColumns v_row v_column v_below v_face v_worn v_lastBend v_tape v_text v_names v_bends v_high v_to v_pileSize v_planLine v_planWay v_way1 v_bestWay v_order1 v_placeIn v_bodyKind v_trace v_shelf v_many v_items v_carried) H → va_D A (wd_X9 cI cL cS cH a v_keptMany v_done v_rowsOf v_columnsOf v_folded v_wronged v_tapeMany v_textMany v_base v_at v_ends v_fault v_opened v_bentMany v_bentWrong v_moreWorn v_planned v_allWrong v_allWorn v_z v_wishedField v_isFound v_bestWrong v_bestWorn v_bestMany v_soughtBy v_sought v_soughtAt v_foundMany v_foundOrder v_isKept v_imageRows v_imageColumns v_imageFolded v_imageWronged v_bodies v_ran v_ownKind v_ownNumber v_limit v_changeWas v_changeIs v_shapeRows v_shapeColumns v_row v_column v_below v_face v_worn v_lastBend v_tape v_text v_names v_bends v_high v_to v_pileSize v_planLine v_planWay v_way1 v_bestWay v_order1 v_placeIn v_bodyKind v_trace v_shelf v_many v_items v_carried) → va_S A s.heap H locs → lv_has ls 7 [(0, .ref (a 0)), (1, .int x1), (3, .int x3), (4, .int x4), (5, .int x5)] → W p l e (mm_rr d) s m args below meth c H locs 0 0 (mm_Z below D A (wd_X9 cI cL cS cH a v_keptMany v_done v_rowsOf v_columnsOf v_folded v_wronged v_tapeMany v_textMany v_base v_at v_ends v_fault v_opened v_bentMany v_bentWrong v_moreWorn v_planned v_allWrong v_allWorn v_z v_wishedField v_isFound v_bestWrong v_bestWorn v_bestMany v_soughtBy v_sought v_soughtAt v_foundMany v_foundOrder v_isKept v_imageRows v_imageColumns v_imageFolded v_imageWronged v_bodies v_ran v_ownKind v_ownNumber v_limit v_changeWas v_changeIs v_shapeRows v_shapeColumns v_row v_column v_below v_face v_worn v_lastBend v_tape v_text v_names v_bends v_high v_to v_pileSize v_planLine v_planWay v_way1 v_bestWay w_order1 w_placeIn v_bodyKind v_trace v_shelf v_many v_items v_carried) (some (.int (mm_b r))) args s) (F0 m 10 ls []) := by
  obtain ⟨hx, hb, hml, hown, hts, hr, hlocks, hK, hSt⟩ := id C0
  intro n
  induction n with
  | zero =>
    intro x1 x3 x4 x5 v_order1 v_placeIn H locs ls hf
    cases (show none = some _ from hf)
  | succ n ih =>
    intro x1 x3 x4 x5 v_order1 v_placeIn H locs ls hf hP hD hS hl
    unfold fX9_isOrder_10 at hf
    refine lv_iload hx hb dX9_isOrder_10 (lv_at hl 4 rfl) ?_
    refine lv_if_lt (tgt := 93) hx hb dX9_isOrder_12 (by decide) (fun c_2 => ?_) (fun c_2 => ?_)
    · have hf := mm_ip hf c_2
      refine lv_iload hx hb dX9_isOrder_93 (lv_at hl 3 rfl) ?_
      refine lv_if_ne (tgt := 102) hx hb dX9_isOrder_95 (by decide) (fun c_3 => ?_) (fun c_3 => ?_)
      · have hf := mm_in hf c_3
        refine lv_iconst (v := 0) hx hb dX9_isOrder_102 (by decide) ?_
        apply mm_sub3 hf
        exact mm_zret (v := false) C0 hP hD hS dX9_isOrder_103 (by decide)
      · have hf := mm_ip hf c_3
        refine lv_iconst (v := 1) hx hb dX9_isOrder_98 (by decide) ?_
        refine lv_goto (tgt := 103) hx hb dX9_isOrder_99 (by decide) ?_
        apply mm_sub3 hf
        exact mm_zret (v := true) C0 hP hD hS dX9_isOrder_103 (by decide)
    · have hf := mm_in hf c_2
      refine lv_iload hx hb dX9_isOrder_15 (lv_at hl 3 rfl) ?_
      refine lv_bipush (v := 10) hx hb dX9_isOrder_17 (by decide) ?_
      obtain ⟨h_4, hf⟩ := mm_cks hf
      refine lv_irem hx hb dX9_isOrder_19 (mm_nzs h_4) ?_
      refine lv_iconst (v := 1) hx hb dX9_isOrder_20 (by decide) ?_
      refine lv_isub hx hb dX9_isOrder_21 ?_
      refine lv_topi (fun y_5 ey_5 => ?_)
      have hf := mm_nms hf ey_5
      refine lv_istore (lv' := [(6, .int y_5), (0, .ref (a 0)), (1, .int x1), (3, .int x3), (4, .int x4), (5, .int x5)]) hx hb dX9_isOrder_22 hl (by decide) rfl (fun ls hl => ?_)
      refine lv_iload hx hb dX9_isOrder_24 (lv_at hl 4 rfl) ?_
      refine lv_if_le (tgt := 53) hx hb dX9_isOrder_26 (by decide) (fun c_6 => ?_) (fun c_6 => ?_)
      · have hf := mm_ip hf c_6
        refine lv_iconst (v := 0) hx hb dX9_isOrder_53 (by decide) ?_
        apply mm_sub3 hf
        exact mm_zret (v := false) C0 hP hD hS dX9_isOrder_54 (by decide)
      · have hf := mm_in hf c_6
        refine lv_iload hx hb dX9_isOrder_29 (lv_at hl 0 rfl) ?_
        refine lv_i2l hx hb dX9_isOrder_31 rfl ?_
        refine lv_lconst (v := 0) hx hb dX9_isOrder_32 (by decide) ?_
        refine lv_iload_n hx hb dX9_isOrder_33 rfl (lv_at hl 2 rfl) ?_
        refine lv_iconst (v := 1) hx hb dX9_isOrder_34 (by decide) ?_
        refine lv_isub hx hb dX9_isOrder_35 ?_
        refine lv_i2l hx hb dX9_isOrder_36 rfl ?_
        obtain ⟨r_7, hc_8, hf⟩ := mm_bd1s hf
        refine mm_callS0 (rest := []) C0 lk_X9_111 (ctX9_within (d := d - 1) (by omega) hc_8) (by omega) rfl hl.1 rfl (mm_cat rfl) dX9_isOrder_37 hP hD hA hS (fun H locs hP hS => ?_)
        refine W.eq (g2 := F0 m 40 ls [.int (mm_b r_7)]) rfl ?_
        refine lv_if_eq (tgt := 53) hx hb dX9_isOrder_40 (by decide) (fun c_9 => ?_) (fun c_9 => ?_)
        · have hf := mm_ip hf (mm_b0 c_9)
          refine lv_iconst (v := 0) hx hb dX9_isOrder_53 (by decide) ?_
          apply mm_sub3 hf
          exact mm_zret (v := false) C0 hP hD hS dX9_isOrder_54 (by decide)
        · have hf := mm_in hf (mm_b1 c_9)
          refine lv_iload_n hx hb dX9_isOrder_43 rfl (lv_at hl 3 rfl) ?_
          refine lv_iload hx hb dX9_isOrder_44 (lv_at hl 0 rfl) ?_
          refine lv_ishr hx hb dX9_isOrder_46 ?_
          refine lv_iconst (v := 1) hx hb dX9_isOrder_47 (by decide) ?_
          refine lv_iand hx hb dX9_isOrder_48 ?_
          refine lv_iconst (v := 1) hx hb dX9_isOrder_49 (by decide) ?_
          refine lv_icmp_ne (tgt := 55) hx hb dX9_isOrder_50 (by decide) (fun c_10 => ?_) (fun c_10 => ?_)
          · have hf := mm_in hf c_10
            refine lv_iload_n hx hb dX9_isOrder_55 rfl (lv_at hl 3 rfl) ?_
            refine lv_iconst (v := 1) hx hb dX9_isOrder_56 (by decide) ?_
            refine lv_iload hx hb dX9_isOrder_57 (lv_at hl 0 rfl) ?_
            refine lv_ishl hx hb dX9_isOrder_59 ?_
            refine lv_ior hx hb dX9_isOrder_60 ?_
            refine lv_topi (fun y_11 ey_11 => ?_)
            have hf := mm_nms hf ey_11
            refine lv_istore_n (lv' := [(3, .int y_11), (6, .int y_5), (0, .ref (a 0)), (1, .int x1), (4, .int x4), (5, .int x5)]) hx hb dX9_isOrder_61 rfl hl (by decide) rfl (fun ls hl => ?_)
            refine lv_aload_n hx hb dX9_isOrder_62 rfl (lv_at hl 2 rfl) ?_
            refine mm_get C0 hP iw_X9 0 rfl rfl 47 (by decide) fl_X9_76 rfl dX9_isOrder_63 ?_
            refine lv_iload hx hb dX9_isOrder_66 (lv_at hl 5 rfl) ?_
            refine lv_iload hx hb dX9_isOrder_68 (lv_at hl 1 rfl) ?_
            obtain ⟨h_12, hf⟩ := mm_cks hf
            refine mm_iast C0 hP hD hS 23 rfl h_12 dX9_isOrder_70 (w2 := (wd_X9 cI cL cS cH a v_keptMany v_done v_rowsOf v_columnsOf v_folded v_wronged v_tapeMany v_textMany v_base v_at v_ends v_fault v_opened v_bentMany v_bentWrong v_moreWorn v_planned v_allWrong v_allWorn v_z v_wishedField v_isFound v_bestWrong v_bestWorn v_bestMany v_soughtBy v_sought v_soughtAt v_foundMany v_foundOrder v_isKept v_imageRows v_imageColumns v_imageFolded v_imageWronged v_bodies v_ran v_ownKind v_ownNumber v_limit v_changeWas v_changeIs v_shapeRows v_shapeColumns v_row v_column v_below v_face v_worn v_lastBend v_tape v_text v_names v_bends v_high v_to v_pileSize v_planLine v_planWay v_way1 v_bestWay (mm_is v_order1 x5 y_5) v_placeIn v_bodyKind v_trace v_shelf v_many v_items v_carried)) rfl (fun H locs hP hD hS => ?_)
            generalize el_13 : (mm_is v_order1 x5 y_5) = l_13 at hP hD
            have hf := mm_nms hf el_13.symm
            refine lv_aload_n hx hb dX9_isOrder_71 rfl (lv_at hl 2 rfl) ?_
            refine mm_get C0 hP iw_X9 0 rfl rfl 48 (by decide) fl_X9_79 rfl dX9_isOrder_72 ?_
            refine lv_iload hx hb dX9_isOrder_75 (lv_at hl 1 rfl) ?_
            refine lv_iload hx hb dX9_isOrder_77 (lv_at hl 5 rfl) ?_
            obtain ⟨h_14, hf⟩ := mm_cks hf
            refine mm_iast C0 hP hD hS 24 rfl h_14 dX9_isOrder_79 (w2 := (wd_X9 cI cL cS cH a v_keptMany v_done v_rowsOf v_columnsOf v_folded v_wronged v_tapeMany v_textMany v_base v_at v_ends v_fault v_opened v_bentMany v_bentWrong v_moreWorn v_planned v_allWrong v_allWorn v_z v_wishedField v_isFound v_bestWrong v_bestWorn v_bestMany v_soughtBy v_sought v_soughtAt v_foundMany v_foundOrder v_isKept v_imageRows v_imageColumns v_imageFolded v_imageWronged v_bodies v_ran v_ownKind v_ownNumber v_limit v_changeWas v_changeIs v_shapeRows v_shapeColumns v_row v_column v_below v_face v_worn v_lastBend v_tape v_text v_names v_bends v_high v_to v_pileSize v_planLine v_planWay v_way1 v_bestWay l_13 (mm_is v_placeIn y_5 x5) v_bodyKind v_trace v_shelf v_many v_items v_carried)) rfl (fun H locs hP hD hS => ?_)
            generalize el_15 : (mm_is v_placeIn y_5 x5) = l_15 at hP hD
            have hf := mm_nms hf el_15.symm
            refine lv_iload hx hb dX9_isOrder_80 (lv_at hl 4 rfl) ?_
            refine lv_bipush (v := 10) hx hb dX9_isOrder_82 (by decide) ?_
            obtain ⟨h_16, hf⟩ := mm_cks hf
            refine lv_idiv hx hb dX9_isOrder_84 (mm_nzs h_16) ?_
            refine lv_topi (fun y_17 ey_17 => ?_)
            have hf := mm_nms hf ey_17
            refine lv_istore (lv' := [(4, .int y_17), (3, .int y_11), (6, .int y_5), (0, .ref (a 0)), (1, .int x1), (5, .int x5)]) hx hb dX9_isOrder_85 hl (by decide) rfl (fun ls hl => ?_)
            obtain ⟨y_18, ey_18⟩ : ∃ z : Int32, z = x5 + (-1 : Int32) := ⟨_, rfl⟩
            have hf := mm_nms hf ey_18
            refine lv_iinc (v := y_18) (lv' := [(5, .int y_18), (4, .int y_17), (3, .int y_11), (6, .int y_5), (0, .ref (a 0)), (1, .int x1)]) hx hb dX9_isOrder_87 hl (k := 5) rfl (by rw [ey_18]; rfl) (by decide) rfl (fun ls hl => ?_)
            refine lv_goto (tgt := 10) hx hb dX9_isOrder_90 (by decide) ?_
            exact ih _ _ _ _ _ _ H locs ls hf hP hD hS (lv_sub hl [4, 5, 2, 1, 0] rfl)
          · have hf := mm_ip hf c_10
            refine lv_iconst (v := 0) hx hb dX9_isOrder_53 (by decide) ?_
            apply mm_sub3 hf
            exact mm_zret (v := false) C0 hP hD hS dX9_isOrder_54 (by decide)

def fX9_isOrder (N : Nat) (x1 : Int32) (x2 : Int32) (v_order1 : List Int32) (v_placeIn : List Int32) : Option (Bool × List Int32 × List Int32) :=
    mm_nm ((x1 - (1 : Int32))) (fun (y_1 : Int32) =>
    fX9_isOrder_10 N N x1 (0 : Int32) x2 y_1 v_order1 v_placeIn)

set_option maxHeartbeats 4000000 in
set_option maxRecDepth 100000 in
theorem ctX9_isOrder {l : Launch} {D : va_G} {cI cL cS cH : ClassId} {a : Nat → Nat} {x1 : Int32} {x2 : Int32} {v_keptMany : Int32} {v_done : Int32} {v_rowsOf : Int32} {v_columnsOf : Int32} {v_folded : Int32} {v_wronged : Int32} {v_tapeMany : Int32} {v_textMany : Int32} {v_base : Int32} {v_at : Int32} {v_ends : Int32} {v_fault : Int32} {v_opened : Int32} {v_bentMany : Int32} {v_bentWrong : Int32} {v_moreWorn : Int32} {v_planned : Int32} {v_allWrong : Int32} {v_allWorn : Int32} {v_z : Int32} {v_wishedField : Int32} {v_isFound : Bool} {v_bestWrong : Int32} {v_bestWorn : Int32} {v_bestMany : Int32} {v_soughtBy : Int32} {v_sought : Int32} {v_soughtAt : Int32} {v_foundMany : Int32} {v_foundOrder : Int32} {v_isKept : Bool} {v_imageRows : Int32} {v_imageColumns : Int32} {v_imageFolded : Int32} {v_imageWronged : Int32} {v_bodies : Int32} {v_ran : Int32} {v_ownKind : Int32} {v_ownNumber : Int32} {v_limit : List Int32} {v_changeWas : List Int32} {v_changeIs : List Int32} {v_shapeRows : List Int32} {v_shapeColumns : List Int32} {v_row : List Int32} {v_column : List Int32} {v_below : List Int32} {v_face : List Int32} {v_worn : List Int32} {v_lastBend : List Int32} {v_tape : List Int32} {v_text : List Int32} {v_names : List Int32} {v_bends : List Int32} {v_high : List Int32} {v_to : List Int32} {v_pileSize : List Int32} {v_planLine : List Int32} {v_planWay : List Int32} {v_way1 : List Int32} {v_bestWay : List Int32} {v_order1 : List Int32} {v_placeIn : List Int32} {v_bodyKind : List Int32} {v_trace : List Int32} {v_shelf : List Int32} {v_many : List Int32} {v_items : List Int64} {v_carried : List Int64} {r : Bool} {w_order1 : List Int32} {w_placeIn : List Int32} {N d : Nat} (hd : 2 ≤ d) (hf : fX9_isOrder N x1 x2 v_order1 v_placeIn = some (r, w_order1, w_placeIn)) : mm_Ct l yX9_isOrder cX9_isOrder 7 (some .boolean) d D (mm_T cI cL cS cH) [.ref (a 0), .int x1, .int x2] (wd_X9 cI cL cS cH a v_keptMany v_done v_rowsOf v_columnsOf v_folded v_wronged v_tapeMany v_textMany v_base v_at v_ends v_fault v_opened v_bentMany v_bentWrong v_moreWorn v_planned v_allWrong v_allWorn v_z v_wishedField v_isFound v_bestWrong v_bestWorn v_bestMany v_soughtBy v_sought v_soughtAt v_foundMany v_foundOrder v_isKept v_imageRows v_imageColumns v_imageFolded v_imageWronged v_bodies v_ran v_ownKind v_ownNumber v_limit v_changeWas v_changeIs v_shapeRows v_shapeColumns v_row v_column v_below v_face v_worn v_lastBend v_tape v_text v_names v_bends v_high v_to v_pileSize v_planLine v_planWay v_way1 v_bestWay v_order1 v_placeIn v_bodyKind v_trace v_shelf v_many v_items v_carried) (wd_X9 cI cL cS cH a v_keptMany v_done v_rowsOf v_columnsOf v_folded v_wronged v_tapeMany v_textMany v_base v_at v_ends v_fault v_opened v_bentMany v_bentWrong v_moreWorn v_planned v_allWrong v_allWorn v_z v_wishedField v_isFound v_bestWrong v_bestWorn v_bestMany v_soughtBy v_sought v_soughtAt v_foundMany v_foundOrder v_isKept v_imageRows v_imageColumns v_imageFolded v_imageWronged v_bodies v_ran v_ownKind v_ownNumber v_limit v_changeWas v_changeIs v_shapeRows v_shapeColumns v_row v_column v_below v_face v_worn v_lastBend v_tape v_text v_names v_bends v_high v_to v_pileSize v_planLine v_planWay v_way1 v_bestWay w_order1 w_placeIn v_bodyKind v_trace v_shelf v_many v_items v_carried) (some (.int (mm_b r))) := by
  refine mm_of (by decide) (Nat.le_of_ble_eq_true rfl) ?_
  intro p e s m args below meth c A H locs ls C0 hP hD hA hS hl
  have C0 : mm_Cx p s m args meth c RX9 cX9_isOrder 7 (some .boolean) D (mm_T cI cL cS cH) A := C0
  obtain ⟨hx, hb, hml, hown, hts, hr, hlocks, hK, hSt⟩ := id C0
  have hl : lv_has ls 7 [(0, .ref (a 0)), (1, .int x1), (2, .int x2)] := hl
  unfold fX9_isOrder at hf
  refine lv_iconst (v := 0) hx hb dX9_isOrder_0 (by decide) ?_
  refine lv_istore_n (lv' := [(3, .int (0 : Int32)), (0, .ref (a 0)), (1, .int x1), (2, .int x2)]) hx hb dX9_isOrder_1 rfl hl (by decide) rfl (fun ls hl => ?_)
  refine lv_iload_n hx hb dX9_isOrder_2 rfl (lv_at hl 3 rfl) ?_
  refine lv_istore (lv' := [(4, .int x2), (3, .int (0 : Int32)), (0, .ref (a 0)), (1, .int x1), (2, .int x2)]) hx hb dX9_isOrder_3 hl (by decide) rfl (fun ls hl => ?_)
  refine lv_iload_n hx hb dX9_isOrder_5 rfl (lv_at hl 3 rfl) ?_
  refine lv_iconst (v := 1) hx hb dX9_isOrder_6 (by decide) ?_
  refine lv_isub hx hb dX9_isOrder_7 ?_
  refine lv_topi (fun y_1 ey_1 => ?_)
  have hf := mm_nms hf ey_1
  refine lv_istore (lv' := [(5, .int y_1), (4, .int x2), (3, .int (0 : Int32)), (0, .ref (a 0)), (1, .int x1), (2, .int x2)]) hx hb dX9_isOrder_8 hl (by decide) rfl (fun ls hl => ?_)
  exact tX9_isOrder_10 hd C0 hA N  N _ _ _ _ _ _ H locs ls hf hP hD hS (lv_sub hl [3, 4, 2, 1, 0] rfl)

theorem nb_dX9_isInside_0 : bls_w cX9_isInside [(0, [42]), (1, [180, 0, 79]), (4, [28]), (5, [46]), (6, [62]), (7, [42]), (8, [180, 0, 79]), (11, [28]), (12, [4]), (13, [96]), (14, [46]), (15, [54, 4])] := bls_of (by decide +kernel)
theorem dX9_isInside_0 : decode cX9_isInside 0 = .ok (.aload_n 0, 1) := op_42 nb_dX9_isInside_0.1
set_option maxRecDepth 100000 in
theorem dX9_isInside_1 : decode cX9_isInside 1 = .ok (.getfield 79, 3) := (op_180 nb_dX9_isInside_0.2.1).trans rfl
theorem dX9_isInside_4 : decode cX9_isInside 4 = .ok (.iload_n 2, 1) := op_28 nb_dX9_isInside_0.2.2.1
theorem dX9_isInside_5 : decode cX9_isInside 5 = .ok (.iaload, 1) := op_46 nb_dX9_isInside_0.2.2.2.1
theorem dX9_isInside_6 : decode cX9_isInside 6 = .ok (.istore_n 3, 1) := op_62 nb_dX9_isInside_0.2.2.2.2.1
theorem dX9_isInside_7 : decode cX9_isInside 7 = .ok (.aload_n 0, 1) := op_42 nb_dX9_isInside_0.2.2.2.2.2.1
set_option maxRecDepth 100000 in
theorem dX9_isInside_8 : decode cX9_isInside 8 = .ok (.getfield 79, 3) := (op_180 nb_dX9_isInside_0.2.2.2.2.2.2.1).trans rfl
theorem dX9_isInside_11 : decode cX9_isInside 11 = .ok (.iload_n 2, 1) := op_28 nb_dX9_isInside_0.2.2.2.2.2.2.2.1
theorem dX9_isInside_12 : decode cX9_isInside 12 = .ok (.iconst 1, 1) := op_4 nb_dX9_isInside_0.2.2.2.2.2.2.2.2.1
theorem dX9_isInside_13 : decode cX9_isInside 13 = .ok (.iadd, 1) := op_96 nb_dX9_isInside_0.2.2.2.2.2.2.2.2.2.1
theorem dX9_isInside_14 : decode cX9_isInside 14 = .ok (.iaload, 1) := op_46 nb_dX9_isInside_0.2.2.2.2.2.2.2.2.2.2.1
set_option maxRecDepth 100000 in
theorem dX9_isInside_15 : decode cX9_isInside 15 = .ok (.istore 4, 2) := (op_54 nb_dX9_isInside_0.2.2.2.2.2.2.2.2.2.2.2.1).trans rfl
theorem nb_dX9_isInside_17 : bls_w cX9_isInside [(17, [29]), (18, [21, 4]), (20, [162, 0, 22]), (23, [29]), (24, [27]), (25, [162, 0, 13]), (28, [27]), (29, [21, 4]), (31, [162, 0, 7]), (34, [4]), (35, [167, 0, 23]), (38, [3])] := bls_of (by decide +kernel)
theorem dX9_isInside_17 : decode cX9_isInside 17 = .ok (.iload_n 3, 1) := op_29 nb_dX9_isInside_17.1
set_option maxRecDepth 100000 in
theorem dX9_isInside_18 : decode cX9_isInside 18 = .ok (.iload 4, 2) := (op_21 nb_dX9_isInside_17.2.1).trans rfl
set_option maxRecDepth 100000 in
theorem dX9_isInside_20 : decode cX9_isInside 20 = .ok (.if_icmp .ge 22, 3) := (op_162 nb_dX9_isInside_17.2.2.1).trans rfl
theorem dX9_isInside_23 : decode cX9_isInside 23 = .ok (.iload_n 3, 1) := op_29 nb_dX9_isInside_17.2.2.2.1
theorem dX9_isInside_24 : decode cX9_isInside 24 = .ok (.iload_n 1, 1) := op_27 nb_dX9_isInside_17.2.2.2.2.1
set_option maxRecDepth 100000 in
theorem dX9_isInside_25 : decode cX9_isInside 25 = .ok (.if_icmp .ge 13, 3) := (op_162 nb_dX9_isInside_17.2.2.2.2.2.1).trans rfl
theorem dX9_isInside_28 : decode cX9_isInside 28 = .ok (.iload_n 1, 1) := op_27 nb_dX9_isInside_17.2.2.2.2.2.2.1
set_option maxRecDepth 100000 in
theorem dX9_isInside_29 : decode cX9_isInside 29 = .ok (.iload 4, 2) := (op_21 nb_dX9_isInside_17.2.2.2.2.2.2.2.1).trans rfl
set_option maxRecDepth 100000 in
theorem dX9_isInside_31 : decode cX9_isInside 31 = .ok (.if_icmp .ge 7, 3) := (op_162 nb_dX9_isInside_17.2.2.2.2.2.2.2.2.1).trans rfl
theorem dX9_isInside_34 : decode cX9_isInside 34 = .ok (.iconst 1, 1) := op_4 nb_dX9_isInside_17.2.2.2.2.2.2.2.2.2.1
set_option maxRecDepth 100000 in
theorem dX9_isInside_35 : decode cX9_isInside 35 = .ok (.goto 23, 3) := (op_167 nb_dX9_isInside_17.2.2.2.2.2.2.2.2.2.2.1).trans rfl
theorem dX9_isInside_38 : decode cX9_isInside 38 = .ok (.iconst 0, 1) := op_3 nb_dX9_isInside_17.2.2.2.2.2.2.2.2.2.2.2.1
theorem nb_dX9_isInside_39 : bls_w cX9_isInside [(39, [167, 0, 19]), (42, [21, 4]), (44, [27]), (45, [162, 0, 12]), (48, [27]), (49, [29]), (50, [162, 0, 7]), (53, [4]), (54, [167, 0, 4]), (57, [3]), (58, [172])] := bls_of (by decide +kernel)
set_option maxRecDepth 100000 in
theorem dX9_isInside_39 : decode cX9_isInside 39 = .ok (.goto 19, 3) := (op_167 nb_dX9_isInside_39.1).trans rfl
set_option maxRecDepth 100000 in
theorem dX9_isInside_42 : decode cX9_isInside 42 = .ok (.iload 4, 2) := (op_21 nb_dX9_isInside_39.2.1).trans rfl
theorem dX9_isInside_44 : decode cX9_isInside 44 = .ok (.iload_n 1, 1) := op_27 nb_dX9_isInside_39.2.2.1
set_option maxRecDepth 100000 in
theorem dX9_isInside_45 : decode cX9_isInside 45 = .ok (.if_icmp .ge 12, 3) := (op_162 nb_dX9_isInside_39.2.2.2.1).trans rfl
theorem dX9_isInside_48 : decode cX9_isInside 48 = .ok (.iload_n 1, 1) := op_27 nb_dX9_isInside_39.2.2.2.2.1
theorem dX9_isInside_49 : decode cX9_isInside 49 = .ok (.iload_n 3, 1) := op_29 nb_dX9_isInside_39.2.2.2.2.2.1
set_option maxRecDepth 100000 in
theorem dX9_isInside_50 : decode cX9_isInside 50 = .ok (.if_icmp .ge 7, 3) := (op_162 nb_dX9_isInside_39.2.2.2.2.2.2.1).trans rfl
theorem dX9_isInside_53 : decode cX9_isInside 53 = .ok (.iconst 1, 1) := op_4 nb_dX9_isInside_39.2.2.2.2.2.2.2.1
set_option maxRecDepth 100000 in
theorem dX9_isInside_54 : decode cX9_isInside 54 = .ok (.goto 4, 3) := (op_167 nb_dX9_isInside_39.2.2.2.2.2.2.2.2.1).trans rfl
theorem dX9_isInside_57 : decode cX9_isInside 57 = .ok (.iconst 0, 1) := op_3 nb_dX9_isInside_39.2.2.2.2.2.2.2.2.2.1
theorem dX9_isInside_58 : decode cX9_isInside 58 = .ok (.ireturn, 1) := op_172 nb_dX9_isInside_39.2.2.2.2.2.2.2.2.2.2.1
def fX9_isInside (N : Nat) (x1 : Int32) (x2 : Int32) (v_placeIn : List Int32) : Option (Bool) :=
    mm_ck (mm_inb x2 v_placeIn.length) (mm_nm ((mm_ig v_placeIn x2)) (fun (y_2 : Int32) =>
    mm_ck (mm_inb (x2 + (1 : Int32)) v_placeIn.length) (mm_nm ((mm_ig v_placeIn (x2 + (1 : Int32)))) (fun (y_4 : Int32) =>
    if y_4 ≤ y_2 then
    (if x1 ≤ y_4 then
    (some (false))
    else (if y_2 ≤ x1 then
    (some (false))
    else (some (true))))
    else (if x1 ≤ y_2 then
    (some (false))
    else (if y_4 ≤ x1 then
    (some (false))
    else (some (true))))))))

set_option maxHeartbeats 4000000 in
set_option maxRecDepth 100000 in
theorem ctX9_isInside {l : Launch} {D : va_G} {cI cL cS cH : ClassId} {a : Nat → Nat} {x1 : Int32} {x2 : Int32} {v_keptMany : Int32} {v_done : Int32} {v_rowsOf : Int32} {v_columnsOf : Int32} {v_folded : Int32} {v_wronged : Int32} {v_tapeMany : Int32} {v_textMany : Int32} {v_base : Int32} {v_at : Int32} {v_ends : Int32} {v_fault : Int32} {v_opened : Int32} {v_bentMany : Int32} {v_bentWrong : Int32} {v_moreWorn : Int32} {v_planned : Int32} {v_allWrong : Int32} {v_allWorn : Int32} {v_z : Int32} {v_wishedField : Int32} {v_isFound : Bool} {v_bestWrong : Int32} {v_bestWorn : Int32} {v_bestMany : Int32} {v_soughtBy : Int32} {v_sought : Int32} {v_soughtAt : Int32} {v_foundMany : Int32} {v_foundOrder : Int32} {v_isKept : Bool} {v_imageRows : Int32} {v_imageColumns : Int32} {v_imageFolded : Int32} {v_imageWronged : Int32} {v_bodies : Int32} {v_ran : Int32} {v_ownKind : Int32} {v_ownNumber : Int32} {v_limit : List Int32} {v_changeWas : List Int32} {v_changeIs : List Int32} {v_shapeRows : List Int32} {v_shapeColumns : List Int32} {v_row : List Int32} {v_column : List Int32} {v_below : List Int32} {v_face : List Int32} {v_worn : List Int32} {v_lastBend : List Int32} {v_tape : List Int32} {v_text : List Int32} {v_names : List Int32} {v_bends : List Int32} {v_high : List Int32} {v_to : List Int32} {v_pileSize : List Int32} {v_planLine : List Int32} {v_planWay : List Int32} {v_way1 : List Int32} {v_bestWay : List Int32} {v_order1 : List Int32} {v_placeIn : List Int32} {v_bodyKind : List Int32} {v_trace : List Int32} {v_shelf : List Int32} {v_many : List Int32} {v_items : List Int64} {v_carried : List Int64} {r : Bool} {N d : Nat} (hd : 1 ≤ d) (hf : fX9_isInside N x1 x2 v_placeIn = some r) : mm_Ct l yX9_isInside cX9_isInside 5 (some .boolean) d D (mm_T cI cL cS cH) [.ref (a 0), .int x1, .int x2] (wd_X9 cI cL cS cH a v_keptMany v_done v_rowsOf v_columnsOf v_folded v_wronged v_tapeMany v_textMany v_base v_at v_ends v_fault v_opened v_bentMany v_bentWrong v_moreWorn v_planned v_allWrong v_allWorn v_z v_wishedField v_isFound v_bestWrong v_bestWorn v_bestMany v_soughtBy v_sought v_soughtAt v_foundMany v_foundOrder v_isKept v_imageRows v_imageColumns v_imageFolded v_imageWronged v_bodies v_ran v_ownKind v_ownNumber v_limit v_changeWas v_changeIs v_shapeRows v_shapeColumns v_row v_column v_below v_face v_worn v_lastBend v_tape v_text v_names v_bends v_high v_to v_pileSize v_planLine v_planWay v_way1 v_bestWay v_order1 v_placeIn v_bodyKind v_trace v_shelf v_many v_items v_carried) (wd_X9 cI cL cS cH a v_keptMany v_done v_rowsOf v_columnsOf v_folded v_wronged v_tapeMany v_textMany v_base v_at v_ends v_fault v_opened v_bentMany v_bentWrong v_moreWorn v_planned v_allWrong v_allWorn v_z v_wishedField v_isFound v_bestWrong v_bestWorn v_bestMany v_soughtBy v_sought v_soughtAt v_foundMany v_foundOrder v_isKept v_imageRows v_imageColumns v_imageFolded v_imageWronged v_bodies v_ran v_ownKind v_ownNumber v_limit v_changeWas v_changeIs v_shapeRows v_shapeColumns v_row v_column v_below v_face v_worn v_lastBend v_tape v_text v_names v_bends v_high v_to v_pileSize v_planLine v_planWay v_way1 v_bestWay v_order1 v_placeIn v_bodyKind v_trace v_shelf v_many v_items v_carried) (some (.int (mm_b r))) := by
  refine mm_of (by decide) (Nat.le_of_ble_eq_true rfl) ?_
  intro p e s m args below meth c A H locs ls C0 hP hD hA hS hl
  have C0 : mm_Cx p s m args meth c RX9 cX9_isInside 5 (some .boolean) D (mm_T cI cL cS cH) A := C0
  obtain ⟨hx, hb, hml, hown, hts, hr, hlocks, hK, hSt⟩ := id C0
  have hl : lv_has ls 5 [(0, .ref (a 0)), (1, .int x1), (2, .int x2)] := hl
  unfold fX9_isInside at hf
  refine lv_aload_n hx hb dX9_isInside_0 rfl (lv_at hl 0 rfl) ?_
  refine mm_get C0 hP iw_X9 0 rfl rfl 48 (by decide) fl_X9_79 rfl dX9_isInside_1 ?_
  refine lv_iload_n hx hb dX9_isInside_4 rfl (lv_at hl 2 rfl) ?_
  obtain ⟨h_1, hf⟩ := mm_cks hf
  refine mm_iald C0 hP 24 rfl h_1 dX9_isInside_5 ?_
  refine lv_topi (fun y_2 ey_2 => ?_)
  have hf := mm_nms hf ey_2
  refine lv_istore_n (lv' := [(3, .int y_2), (0, .ref (a 0)), (1, .int x1), (2, .int x2)]) hx hb dX9_isInside_6 rfl hl (by decide) rfl (fun ls hl => ?_)
  refine lv_aload_n hx hb dX9_isInside_7 rfl (lv_at hl 1 rfl) ?_
  refine mm_get C0 hP iw_X9 0 rfl rfl 48 (by decide) fl_X9_79 rfl dX9_isInside_8 ?_
  refine lv_iload_n hx hb dX9_isInside_11 rfl (lv_at hl 3 rfl) ?_
  refine lv_iconst (v := 1) hx hb dX9_isInside_12 (by decide) ?_
  refine lv_iadd hx hb dX9_isInside_13 ?_
  obtain ⟨h_3, hf⟩ := mm_cks hf
  refine mm_iald C0 hP 24 rfl h_3 dX9_isInside_14 ?_
  refine lv_topi (fun y_4 ey_4 => ?_)
  have hf := mm_nms hf ey_4
  refine lv_istore (lv' := [(4, .int y_4), (3, .int y_2), (0, .ref (a 0)), (1, .int x1), (2, .int x2)]) hx hb dX9_isInside_15 hl (by decide) rfl (fun ls hl => ?_)
  refine lv_iload_n hx hb dX9_isInside_17 rfl (lv_at hl 1 rfl) ?_
  refine lv_iload hx hb dX9_isInside_18 (lv_at hl 0 rfl) ?_
  refine lv_icmp_ge (tgt := 42) hx hb dX9_isInside_20 (by decide) (fun c_5 => ?_) (fun c_5 => ?_)
  · have hf := mm_ip hf c_5
    refine lv_iload hx hb dX9_isInside_42 (lv_at hl 0 rfl) ?_
    refine lv_iload_n hx hb dX9_isInside_44 rfl (lv_at hl 3 rfl) ?_
    refine lv_icmp_ge (tgt := 57) hx hb dX9_isInside_45 (by decide) (fun c_6 => ?_) (fun c_6 => ?_)
    · have hf := mm_ip hf c_6
      refine lv_iconst (v := 0) hx hb dX9_isInside_57 (by decide) ?_
      obtain rfl := mm_inj1 hf
      exact mm_zret (v := false) C0 hP hD hS dX9_isInside_58 (by decide)
    · have hf := mm_in hf c_6
      refine lv_iload_n hx hb dX9_isInside_48 rfl (lv_at hl 3 rfl) ?_
      refine lv_iload_n hx hb dX9_isInside_49 rfl (lv_at hl 1 rfl) ?_
      refine lv_icmp_ge (tgt := 57) hx hb dX9_isInside_50 (by decide) (fun c_7 => ?_) (fun c_7 => ?_)
      · have hf := mm_ip hf c_7
        refine lv_iconst (v := 0) hx hb dX9_isInside_57 (by decide) ?_
        obtain rfl := mm_inj1 hf
        exact mm_zret (v := false) C0 hP hD hS dX9_isInside_58 (by decide)
      · have hf := mm_in hf c_7
        refine lv_iconst (v := 1) hx hb dX9_isInside_53 (by decide) ?_
        refine lv_goto (tgt := 58) hx hb dX9_isInside_54 (by decide) ?_
        obtain rfl := mm_inj1 hf
        exact mm_zret (v := true) C0 hP hD hS dX9_isInside_58 (by decide)
  · have hf := mm_in hf c_5
    refine lv_iload_n hx hb dX9_isInside_23 rfl (lv_at hl 1 rfl) ?_
    refine lv_iload_n hx hb dX9_isInside_24 rfl (lv_at hl 3 rfl) ?_
    refine lv_icmp_ge (tgt := 38) hx hb dX9_isInside_25 (by decide) (fun c_8 => ?_) (fun c_8 => ?_)
    · have hf := mm_ip hf c_8
      refine lv_iconst (v := 0) hx hb dX9_isInside_38 (by decide) ?_
      refine lv_goto (tgt := 58) hx hb dX9_isInside_39 (by decide) ?_
      obtain rfl := mm_inj1 hf
      exact mm_zret (v := false) C0 hP hD hS dX9_isInside_58 (by decide)
    · have hf := mm_in hf c_8
      refine lv_iload_n hx hb dX9_isInside_28 rfl (lv_at hl 3 rfl) ?_
      refine lv_iload hx hb dX9_isInside_29 (lv_at hl 0 rfl) ?_
      refine lv_icmp_ge (tgt := 38) hx hb dX9_isInside_31 (by decide) (fun c_9 => ?_) (fun c_9 => ?_)
      · have hf := mm_ip hf c_9
        refine lv_iconst (v := 0) hx hb dX9_isInside_38 (by decide) ?_
        refine lv_goto (tgt := 58) hx hb dX9_isInside_39 (by decide) ?_
        obtain rfl := mm_inj1 hf
        exact mm_zret (v := false) C0 hP hD hS dX9_isInside_58 (by decide)
      · have hf := mm_in hf c_9
        refine lv_iconst (v := 1) hx hb dX9_isInside_34 (by decide) ?_
        refine lv_goto (tgt := 58) hx hb dX9_isInside_35 (by decide) ?_
        obtain rfl := mm_inj1 hf
        exact mm_zret (v := true) C0 hP hD hS dX9_isInside_58 (by decide)

theorem nb_dX9_areCrossed_0 : bls_w cX9_areCrossed [(0, [42]), (1, [42]), (2, [180, 0, 79]), (5, [28]), (6, [46]), (7, [27]), (8, [182, 1, 81]), (11, [42]), (12, [42]), (13, [180, 0, 79]), (16, [28]), (17, [4])] := bls_of (by decide +kernel)
theorem dX9_areCrossed_0 : decode cX9_areCrossed 0 = .ok (.aload_n 0, 1) := op_42 nb_dX9_areCrossed_0.1
theorem dX9_areCrossed_1 : decode cX9_areCrossed 1 = .ok (.aload_n 0, 1) := op_42 nb_dX9_areCrossed_0.2.1
set_option maxRecDepth 100000 in
theorem dX9_areCrossed_2 : decode cX9_areCrossed 2 = .ok (.getfield 79, 3) := (op_180 nb_dX9_areCrossed_0.2.2.1).trans rfl
theorem dX9_areCrossed_5 : decode cX9_areCrossed 5 = .ok (.iload_n 2, 1) := op_28 nb_dX9_areCrossed_0.2.2.2.1
theorem dX9_areCrossed_6 : decode cX9_areCrossed 6 = .ok (.iaload, 1) := op_46 nb_dX9_areCrossed_0.2.2.2.2.1
theorem dX9_areCrossed_7 : decode cX9_areCrossed 7 = .ok (.iload_n 1, 1) := op_27 nb_dX9_areCrossed_0.2.2.2.2.2.1
set_option maxRecDepth 100000 in
theorem dX9_areCrossed_8 : decode cX9_areCrossed 8 = .ok (.invokevirtual 337, 3) := (op_182 nb_dX9_areCrossed_0.2.2.2.2.2.2.1).trans rfl
theorem dX9_areCrossed_11 : decode cX9_areCrossed 11 = .ok (.aload_n 0, 1) := op_42 nb_dX9_areCrossed_0.2.2.2.2.2.2.2.1
theorem dX9_areCrossed_12 : decode cX9_areCrossed 12 = .ok (.aload_n 0, 1) := op_42 nb_dX9_areCrossed_0.2.2.2.2.2.2.2.2.1
set_option maxRecDepth 100000 in
theorem dX9_areCrossed_13 : decode cX9_areCrossed 13 = .ok (.getfield 79, 3) := (op_180 nb_dX9_areCrossed_0.2.2.2.2.2.2.2.2.2.1).trans rfl
theorem dX9_areCrossed_16 : decode cX9_areCrossed 16 = .ok (.iload_n 2, 1) := op_28 nb_dX9_areCrossed_0.2.2.2.2.2.2.2.2.2.2.1
theorem dX9_areCrossed_17 : decode cX9_areCrossed 17 = .ok (.iconst 1, 1) := op_4 nb_dX9_areCrossed_0.2.2.2.2.2.2.2.2.2.2.2.1
theorem nb_dX9_areCrossed_18 : bls_w cX9_areCrossed [(18, [96]), (19, [46]), (20, [27]), (21, [182, 1, 81]), (24, [159, 0, 34]), (27, [42]), (28, [42]), (29, [180, 0, 79]), (32, [27]), (33, [46]), (34, [28]), (35, [182, 1, 81])] := bls_of (by decide +kernel)
theorem dX9_areCrossed_18 : decode cX9_areCrossed 18 = .ok (.iadd, 1) := op_96 nb_dX9_areCrossed_18.1
theorem dX9_areCrossed_19 : decode cX9_areCrossed 19 = .ok (.iaload, 1) := op_46 nb_dX9_areCrossed_18.2.1
theorem dX9_areCrossed_20 : decode cX9_areCrossed 20 = .ok (.iload_n 1, 1) := op_27 nb_dX9_areCrossed_18.2.2.1
set_option maxRecDepth 100000 in
theorem dX9_areCrossed_21 : decode cX9_areCrossed 21 = .ok (.invokevirtual 337, 3) := (op_182 nb_dX9_areCrossed_18.2.2.2.1).trans rfl
set_option maxRecDepth 100000 in
theorem dX9_areCrossed_24 : decode cX9_areCrossed 24 = .ok (.if_icmp .eq 34, 3) := (op_159 nb_dX9_areCrossed_18.2.2.2.2.1).trans rfl
theorem dX9_areCrossed_27 : decode cX9_areCrossed 27 = .ok (.aload_n 0, 1) := op_42 nb_dX9_areCrossed_18.2.2.2.2.2.1
theorem dX9_areCrossed_28 : decode cX9_areCrossed 28 = .ok (.aload_n 0, 1) := op_42 nb_dX9_areCrossed_18.2.2.2.2.2.2.1
set_option maxRecDepth 100000 in
theorem dX9_areCrossed_29 : decode cX9_areCrossed 29 = .ok (.getfield 79, 3) := (op_180 nb_dX9_areCrossed_18.2.2.2.2.2.2.2.1).trans rfl
theorem dX9_areCrossed_32 : decode cX9_areCrossed 32 = .ok (.iload_n 1, 1) := op_27 nb_dX9_areCrossed_18.2.2.2.2.2.2.2.2.1
theorem dX9_areCrossed_33 : decode cX9_areCrossed 33 = .ok (.iaload, 1) := op_46 nb_dX9_areCrossed_18.2.2.2.2.2.2.2.2.2.1
theorem dX9_areCrossed_34 : decode cX9_areCrossed 34 = .ok (.iload_n 2, 1) := op_28 nb_dX9_areCrossed_18.2.2.2.2.2.2.2.2.2.2.1
set_option maxRecDepth 100000 in
theorem dX9_areCrossed_35 : decode cX9_areCrossed 35 = .ok (.invokevirtual 337, 3) := (op_182 nb_dX9_areCrossed_18.2.2.2.2.2.2.2.2.2.2.2.1).trans rfl
theorem nb_dX9_areCrossed_38 : bls_w cX9_areCrossed [(38, [42]), (39, [42]), (40, [180, 0, 79]), (43, [27]), (44, [4]), (45, [96]), (46, [46]), (47, [28]), (48, [182, 1, 81]), (51, [159, 0, 7]), (54, [4]), (55, [167, 0, 4])] := bls_of (by decide +kernel)
theorem dX9_areCrossed_38 : decode cX9_areCrossed 38 = .ok (.aload_n 0, 1) := op_42 nb_dX9_areCrossed_38.1
theorem dX9_areCrossed_39 : decode cX9_areCrossed 39 = .ok (.aload_n 0, 1) := op_42 nb_dX9_areCrossed_38.2.1
set_option maxRecDepth 100000 in
theorem dX9_areCrossed_40 : decode cX9_areCrossed 40 = .ok (.getfield 79, 3) := (op_180 nb_dX9_areCrossed_38.2.2.1).trans rfl
theorem dX9_areCrossed_43 : decode cX9_areCrossed 43 = .ok (.iload_n 1, 1) := op_27 nb_dX9_areCrossed_38.2.2.2.1
theorem dX9_areCrossed_44 : decode cX9_areCrossed 44 = .ok (.iconst 1, 1) := op_4 nb_dX9_areCrossed_38.2.2.2.2.1
theorem dX9_areCrossed_45 : decode cX9_areCrossed 45 = .ok (.iadd, 1) := op_96 nb_dX9_areCrossed_38.2.2.2.2.2.1
theorem dX9_areCrossed_46 : decode cX9_areCrossed 46 = .ok (.iaload, 1) := op_46 nb_dX9_areCrossed_38.2.2.2.2.2.2.1
theorem dX9_areCrossed_47 : decode cX9_areCrossed 47 = .ok (.iload_n 2, 1) := op_28 nb_dX9_areCrossed_38.2.2.2.2.2.2.2.1
set_option maxRecDepth 100000 in
theorem dX9_areCrossed_48 : decode cX9_areCrossed 48 = .ok (.invokevirtual 337, 3) := (op_182 nb_dX9_areCrossed_38.2.2.2.2.2.2.2.2.1).trans rfl
set_option maxRecDepth 100000 in
theorem dX9_areCrossed_51 : decode cX9_areCrossed 51 = .ok (.if_icmp .eq 7, 3) := (op_159 nb_dX9_areCrossed_38.2.2.2.2.2.2.2.2.2.1).trans rfl
theorem dX9_areCrossed_54 : decode cX9_areCrossed 54 = .ok (.iconst 1, 1) := op_4 nb_dX9_areCrossed_38.2.2.2.2.2.2.2.2.2.2.1
set_option maxRecDepth 100000 in
theorem dX9_areCrossed_55 : decode cX9_areCrossed 55 = .ok (.goto 4, 3) := (op_167 nb_dX9_areCrossed_38.2.2.2.2.2.2.2.2.2.2.2.1).trans rfl
theorem nb_dX9_areCrossed_58 : bls_w cX9_areCrossed [(58, [3]), (59, [172])] := bls_of (by decide +kernel)
theorem dX9_areCrossed_58 : decode cX9_areCrossed 58 = .ok (.iconst 0, 1) := op_3 nb_dX9_areCrossed_58.1
theorem dX9_areCrossed_59 : decode cX9_areCrossed 59 = .ok (.ireturn, 1) := op_172 nb_dX9_areCrossed_58.2.1
def fX9_areCrossed (N : Nat) (x1 : Int32) (x2 : Int32) (v_placeIn : List Int32) : Option (Bool) :=
    mm_ck (mm_inb x2 v_placeIn.length) (mm_bd1 (fX9_isInside N (mm_ig v_placeIn x2) x1 v_placeIn) (fun (r_2 : Bool) =>
    mm_ck (mm_inb (x2 + (1 : Int32)) v_placeIn.length) (mm_bd1 (fX9_isInside N (mm_ig v_placeIn (x2 + (1 : Int32))) x1 v_placeIn) (fun (r_5 : Bool) =>
    if (mm_b r_2) = (mm_b r_5) then
    (some (false))
    else (mm_ck (mm_inb x1 v_placeIn.length) (mm_bd1 (fX9_isInside N (mm_ig v_placeIn x1) x2 v_placeIn) (fun (r_9 : Bool) =>
    mm_ck (mm_inb (x1 + (1 : Int32)) v_placeIn.length) (mm_bd1 (fX9_isInside N (mm_ig v_placeIn (x1 + (1 : Int32))) x2 v_placeIn) (fun (r_12 : Bool) =>
    if (mm_b r_9) = (mm_b r_12) then
    (some (false))
    else (some (true)))))))))))

set_option maxHeartbeats 4000000 in
set_option maxRecDepth 100000 in
theorem ctX9_areCrossed {l : Launch} {D : va_G} {cI cL cS cH : ClassId} {a : Nat → Nat} {x1 : Int32} {x2 : Int32} {v_keptMany : Int32} {v_done : Int32} {v_rowsOf : Int32} {v_columnsOf : Int32} {v_folded : Int32} {v_wronged : Int32} {v_tapeMany : Int32} {v_textMany : Int32} {v_base : Int32} {v_at : Int32} {v_ends : Int32} {v_fault : Int32} {v_opened : Int32} {v_bentMany : Int32} {v_bentWrong : Int32} {v_moreWorn : Int32} {v_planned : Int32} {v_allWrong : Int32} {v_allWorn : Int32} {v_z : Int32} {v_wishedField : Int32} {v_isFound : Bool} {v_bestWrong : Int32} {v_bestWorn : Int32} {v_bestMany : Int32} {v_soughtBy : Int32} {v_sought : Int32} {v_soughtAt : Int32} {v_foundMany : Int32} {v_foundOrder : Int32} {v_isKept : Bool} {v_imageRows : Int32} {v_imageColumns : Int32} {v_imageFolded : Int32} {v_imageWronged : Int32} {v_bodies : Int32} {v_ran : Int32} {v_ownKind : Int32} {v_ownNumber : Int32} {v_limit : List Int32} {v_changeWas : List Int32} {v_changeIs : List Int32} {v_shapeRows : List Int32} {v_shapeColumns : List Int32} {v_row : List Int32} {v_column : List Int32} {v_below : List Int32} {v_face : List Int32} {v_worn : List Int32} {v_lastBend : List Int32} {v_tape : List Int32} {v_text : List Int32} {v_names : List Int32} {v_bends : List Int32} {v_high : List Int32} {v_to : List Int32} {v_pileSize : List Int32} {v_planLine : List Int32} {v_planWay : List Int32} {v_way1 : List Int32} {v_bestWay : List Int32} {v_order1 : List Int32} {v_placeIn : List Int32} {v_bodyKind : List Int32} {v_trace : List Int32} {v_shelf : List Int32} {v_many : List Int32} {v_items : List Int64} {v_carried : List Int64} {r : Bool} {N d : Nat} (hd : 2 ≤ d) (hf : fX9_areCrossed N x1 x2 v_placeIn = some r) : mm_Ct l yX9_areCrossed cX9_areCrossed 3 (some .boolean) d D (mm_T cI cL cS cH) [.ref (a 0), .int x1, .int x2] (wd_X9 cI cL cS cH a v_keptMany v_done v_rowsOf v_columnsOf v_folded v_wronged v_tapeMany v_textMany v_base v_at v_ends v_fault v_opened v_bentMany v_bentWrong v_moreWorn v_planned v_allWrong v_allWorn v_z v_wishedField v_isFound v_bestWrong v_bestWorn v_bestMany v_soughtBy v_sought v_soughtAt v_foundMany v_foundOrder v_isKept v_imageRows v_imageColumns v_imageFolded v_imageWronged v_bodies v_ran v_ownKind v_ownNumber v_limit v_changeWas v_changeIs v_shapeRows v_shapeColumns v_row v_column v_below v_face v_worn v_lastBend v_tape v_text v_names v_bends v_high v_to v_pileSize v_planLine v_planWay v_way1 v_bestWay v_order1 v_placeIn v_bodyKind v_trace v_shelf v_many v_items v_carried) (wd_X9 cI cL cS cH a v_keptMany v_done v_rowsOf v_columnsOf v_folded v_wronged v_tapeMany v_textMany v_base v_at v_ends v_fault v_opened v_bentMany v_bentWrong v_moreWorn v_planned v_allWrong v_allWorn v_z v_wishedField v_isFound v_bestWrong v_bestWorn v_bestMany v_soughtBy v_sought v_soughtAt v_foundMany v_foundOrder v_isKept v_imageRows v_imageColumns v_imageFolded v_imageWronged v_bodies v_ran v_ownKind v_ownNumber v_limit v_changeWas v_changeIs v_shapeRows v_shapeColumns v_row v_column v_below v_face v_worn v_lastBend v_tape v_text v_names v_bends v_high v_to v_pileSize v_planLine v_planWay v_way1 v_bestWay v_order1 v_placeIn v_bodyKind v_trace v_shelf v_many v_items v_carried) (some (.int (mm_b r))) := by
  refine mm_of (by decide) (Nat.le_of_ble_eq_true rfl) ?_
  intro p e s m args below meth c A H locs ls C0 hP hD hA hS hl
  have C0 : mm_Cx p s m args meth c RX9 cX9_areCrossed 3 (some .boolean) D (mm_T cI cL cS cH) A := C0
  obtain ⟨hx, hb, hml, hown, hts, hr, hlocks, hK, hSt⟩ := id C0
  have hl : lv_has ls 3 [(0, .ref (a 0)), (1, .int x1), (2, .int x2)] := hl
  unfold fX9_areCrossed at hf
  refine lv_aload_n hx hb dX9_areCrossed_0 rfl (lv_at hl 0 rfl) ?_
  refine lv_aload_n hx hb dX9_areCrossed_1 rfl (lv_at hl 0 rfl) ?_
  refine mm_get C0 hP iw_X9 0 rfl rfl 48 (by decide) fl_X9_79 rfl dX9_areCrossed_2 ?_
  refine lv_iload_n hx hb dX9_areCrossed_5 rfl (lv_at hl 2 rfl) ?_
  obtain ⟨h_1, hf⟩ := mm_cks hf
  refine mm_iald C0 hP 24 rfl h_1 dX9_areCrossed_6 ?_
  refine lv_iload_n hx hb dX9_areCrossed_7 rfl (lv_at hl 1 rfl) ?_
  obtain ⟨r_2, hc_3, hf⟩ := mm_bd1s hf
  refine mm_callVF (q0 := 0) (ci := 9) (rest := []) C0 lk_X9_337 (ctX9_isInside (a := a) (d := d - 1) (by omega) hc_3) (by omega) rfl hl.1 rfl (mm_cat rfl) dX9_areCrossed_8 hP hD hA hS rfl rfl (fun H locs hP hD hS => ?_)
  refine W.eq (g2 := F0 m 11 ls [.int (mm_b r_2)]) rfl ?_
  refine lv_aload_n hx hb dX9_areCrossed_11 rfl (lv_at hl 0 rfl) ?_
  refine lv_aload_n hx hb dX9_areCrossed_12 rfl (lv_at hl 0 rfl) ?_
  refine mm_get C0 hP iw_X9 0 rfl rfl 48 (by decide) fl_X9_79 rfl dX9_areCrossed_13 ?_
  refine lv_iload_n hx hb dX9_areCrossed_16 rfl (lv_at hl 2 rfl) ?_
  refine lv_iconst (v := 1) hx hb dX9_areCrossed_17 (by decide) ?_
  refine lv_iadd hx hb dX9_areCrossed_18 ?_
  obtain ⟨h_4, hf⟩ := mm_cks hf
  refine mm_iald C0 hP 24 rfl h_4 dX9_areCrossed_19 ?_
  refine lv_iload_n hx hb dX9_areCrossed_20 rfl (lv_at hl 1 rfl) ?_
  obtain ⟨r_5, hc_6, hf⟩ := mm_bd1s hf
  refine mm_callVF (q0 := 0) (ci := 9) (rest := [.int (mm_b r_2)]) C0 lk_X9_337 (ctX9_isInside (a := a) (d := d - 1) (by omega) hc_6) (by omega) rfl hl.1 rfl (mm_cat rfl) dX9_areCrossed_21 hP hD hA hS rfl rfl (fun H locs hP hD hS => ?_)
  refine W.eq (g2 := F0 m 24 ls [.int (mm_b r_5), .int (mm_b r_2)]) rfl ?_
  refine lv_icmp_eq (tgt := 58) hx hb dX9_areCrossed_24 (by decide) (fun c_7 => ?_) (fun c_7 => ?_)
  · have hf := mm_ip hf c_7
    refine lv_iconst (v := 0) hx hb dX9_areCrossed_58 (by decide) ?_
    obtain rfl := mm_inj1 hf
    exact mm_zret (v := false) C0 hP hD hS dX9_areCrossed_59 (by decide)
  · have hf := mm_in hf c_7
    refine lv_aload_n hx hb dX9_areCrossed_27 rfl (lv_at hl 0 rfl) ?_
    refine lv_aload_n hx hb dX9_areCrossed_28 rfl (lv_at hl 0 rfl) ?_
    refine mm_get C0 hP iw_X9 0 rfl rfl 48 (by decide) fl_X9_79 rfl dX9_areCrossed_29 ?_
    refine lv_iload_n hx hb dX9_areCrossed_32 rfl (lv_at hl 1 rfl) ?_
    obtain ⟨h_8, hf⟩ := mm_cks hf
    refine mm_iald C0 hP 24 rfl h_8 dX9_areCrossed_33 ?_
    refine lv_iload_n hx hb dX9_areCrossed_34 rfl (lv_at hl 2 rfl) ?_
    obtain ⟨r_9, hc_10, hf⟩ := mm_bd1s hf
    refine mm_callVF (q0 := 0) (ci := 9) (rest := []) C0 lk_X9_337 (ctX9_isInside (a := a) (d := d - 1) (by omega) hc_10) (by omega) rfl hl.1 rfl (mm_cat rfl) dX9_areCrossed_35 hP hD hA hS rfl rfl (fun H locs hP hD hS => ?_)
    refine W.eq (g2 := F0 m 38 ls [.int (mm_b r_9)]) rfl ?_
    refine lv_aload_n hx hb dX9_areCrossed_38 rfl (lv_at hl 0 rfl) ?_
    refine lv_aload_n hx hb dX9_areCrossed_39 rfl (lv_at hl 0 rfl) ?_
    refine mm_get C0 hP iw_X9 0 rfl rfl 48 (by decide) fl_X9_79 rfl dX9_areCrossed_40 ?_
    refine lv_iload_n hx hb dX9_areCrossed_43 rfl (lv_at hl 1 rfl) ?_
    refine lv_iconst (v := 1) hx hb dX9_areCrossed_44 (by decide) ?_
    refine lv_iadd hx hb dX9_areCrossed_45 ?_
    obtain ⟨h_11, hf⟩ := mm_cks hf
    refine mm_iald C0 hP 24 rfl h_11 dX9_areCrossed_46 ?_
    refine lv_iload_n hx hb dX9_areCrossed_47 rfl (lv_at hl 2 rfl) ?_
    obtain ⟨r_12, hc_13, hf⟩ := mm_bd1s hf
    refine mm_callVF (q0 := 0) (ci := 9) (rest := [.int (mm_b r_9)]) C0 lk_X9_337 (ctX9_isInside (a := a) (d := d - 1) (by omega) hc_13) (by omega) rfl hl.1 rfl (mm_cat rfl) dX9_areCrossed_48 hP hD hA hS rfl rfl (fun H locs hP hD hS => ?_)
    refine W.eq (g2 := F0 m 51 ls [.int (mm_b r_12), .int (mm_b r_9)]) rfl ?_
    refine lv_icmp_eq (tgt := 58) hx hb dX9_areCrossed_51 (by decide) (fun c_14 => ?_) (fun c_14 => ?_)
    · have hf := mm_ip hf c_14
      refine lv_iconst (v := 0) hx hb dX9_areCrossed_58 (by decide) ?_
      obtain rfl := mm_inj1 hf
      exact mm_zret (v := false) C0 hP hD hS dX9_areCrossed_59 (by decide)
    · have hf := mm_in hf c_14
      refine lv_iconst (v := 1) hx hb dX9_areCrossed_54 (by decide) ?_
      refine lv_goto (tgt := 59) hx hb dX9_areCrossed_55 (by decide) ?_
      obtain rfl := mm_inj1 hf
      exact mm_zret (v := true) C0 hP hD hS dX9_areCrossed_59 (by decide)
end
section
/-! reference: X9_firstCross, X9_crosses, X9_bendsOf, X9_bends, X9_looksAt -/
theorem nb_dX9_firstCross_0 : bls_w cX9_firstCross [(0, [3]), (1, [61]), (2, [28]), (3, [4]), (4, [96]), (5, [27]), (6, [162, 0, 42]), (9, [28]), (10, [5]), (11, [96]), (12, [62]), (13, [29])] := bls_of (by decide +kernel)
theorem dX9_firstCross_0 : decode cX9_firstCross 0 = .ok (.iconst 0, 1) := op_3 nb_dX9_firstCross_0.1
theorem dX9_firstCross_1 : decode cX9_firstCross 1 = .ok (.istore_n 2, 1) := op_61 nb_dX9_firstCross_0.2.1
theorem dX9_firstCross_2 : decode cX9_firstCross 2 = .ok (.iload_n 2, 1) := op_28 nb_dX9_firstCross_0.2.2.1
theorem dX9_firstCross_3 : decode cX9_firstCross 3 = .ok (.iconst 1, 1) := op_4 nb_dX9_firstCross_0.2.2.2.1
theorem dX9_firstCross_4 : decode cX9_firstCross 4 = .ok (.iadd, 1) := op_96 nb_dX9_firstCross_0.2.2.2.2.1
theorem dX9_firstCross_5 : decode cX9_firstCross 5 = .ok (.iload_n 1, 1) := op_27 nb_dX9_firstCross_0.2.2.2.2.2.1
set_option maxRecDepth 100000 in
theorem dX9_firstCross_6 : decode cX9_firstCross 6 = .ok (.if_icmp .ge 42, 3) := (op_162 nb_dX9_firstCross_0.2.2.2.2.2.2.1).trans rfl
theorem dX9_firstCross_9 : decode cX9_firstCross 9 = .ok (.iload_n 2, 1) := op_28 nb_dX9_firstCross_0.2.2.2.2.2.2.2.1
theorem dX9_firstCross_10 : decode cX9_firstCross 10 = .ok (.iconst 2, 1) := op_5 nb_dX9_firstCross_0.2.2.2.2.2.2.2.2.1
theorem dX9_firstCross_11 : decode cX9_firstCross 11 = .ok (.iadd, 1) := op_96 nb_dX9_firstCross_0.2.2.2.2.2.2.2.2.2.1
theorem dX9_firstCross_12 : decode cX9_firstCross 12 = .ok (.istore_n 3, 1) := op_62 nb_dX9_firstCross_0.2.2.2.2.2.2.2.2.2.2.1
theorem dX9_firstCross_13 : decode cX9_firstCross 13 = .ok (.iload_n 3, 1) := op_29 nb_dX9_firstCross_0.2.2.2.2.2.2.2.2.2.2.2.1
theorem nb_dX9_firstCross_14 : bls_w cX9_firstCross [(14, [4]), (15, [96]), (16, [27]), (17, [162, 0, 25]), (20, [42]), (21, [28]), (22, [29]), (23, [182, 1, 84]), (26, [153, 0, 10]), (29, [16, 10]), (31, [28]), (32, [104])] := bls_of (by decide +kernel)
theorem dX9_firstCross_14 : decode cX9_firstCross 14 = .ok (.iconst 1, 1) := op_4 nb_dX9_firstCross_14.1
theorem dX9_firstCross_15 : decode cX9_firstCross 15 = .ok (.iadd, 1) := op_96 nb_dX9_firstCross_14.2.1
theorem dX9_firstCross_16 : decode cX9_firstCross 16 = .ok (.iload_n 1, 1) := op_27 nb_dX9_firstCross_14.2.2.1
set_option maxRecDepth 100000 in
theorem dX9_firstCross_17 : decode cX9_firstCross 17 = .ok (.if_icmp .ge 25, 3) := (op_162 nb_dX9_firstCross_14.2.2.2.1).trans rfl
theorem dX9_firstCross_20 : decode cX9_firstCross 20 = .ok (.aload_n 0, 1) := op_42 nb_dX9_firstCross_14.2.2.2.2.1
theorem dX9_firstCross_21 : decode cX9_firstCross 21 = .ok (.iload_n 2, 1) := op_28 nb_dX9_firstCross_14.2.2.2.2.2.1
theorem dX9_firstCross_22 : decode cX9_firstCross 22 = .ok (.iload_n 3, 1) := op_29 nb_dX9_firstCross_14.2.2.2.2.2.2.1
set_option maxRecDepth 100000 in
theorem dX9_firstCross_23 : decode cX9_firstCross 23 = .ok (.invokevirtual 340, 3) := (op_182 nb_dX9_firstCross_14.2.2.2.2.2.2.2.1).trans rfl
set_option maxRecDepth 100000 in
theorem dX9_firstCross_26 : decode cX9_firstCross 26 = .ok (.ifCond .eq 10, 3) := (op_153 nb_dX9_firstCross_14.2.2.2.2.2.2.2.2.1).trans rfl
set_option maxRecDepth 100000 in
theorem dX9_firstCross_29 : decode cX9_firstCross 29 = .ok (.bipush 10, 2) := (op_16 nb_dX9_firstCross_14.2.2.2.2.2.2.2.2.2.1).trans rfl
theorem dX9_firstCross_31 : decode cX9_firstCross 31 = .ok (.iload_n 2, 1) := op_28 nb_dX9_firstCross_14.2.2.2.2.2.2.2.2.2.2.1
theorem dX9_firstCross_32 : decode cX9_firstCross 32 = .ok (.imul, 1) := op_104 nb_dX9_firstCross_14.2.2.2.2.2.2.2.2.2.2.2.1
theorem nb_dX9_firstCross_33 : bls_w cX9_firstCross [(33, [29]), (34, [96]), (35, [172]), (36, [132, 3, 2]), (39, [167, 255, 230]), (42, [132, 2, 1]), (45, [167, 255, 213]), (48, [16, 254]), (50, [172])] := bls_of (by decide +kernel)
theorem dX9_firstCross_33 : decode cX9_firstCross 33 = .ok (.iload_n 3, 1) := op_29 nb_dX9_firstCross_33.1
theorem dX9_firstCross_34 : decode cX9_firstCross 34 = .ok (.iadd, 1) := op_96 nb_dX9_firstCross_33.2.1
theorem dX9_firstCross_35 : decode cX9_firstCross 35 = .ok (.ireturn, 1) := op_172 nb_dX9_firstCross_33.2.2.1
set_option maxRecDepth 100000 in
theorem dX9_firstCross_36 : decode cX9_firstCross 36 = .ok (.iinc 3 2, 3) := (op_132 nb_dX9_firstCross_33.2.2.2.1).trans rfl
set_option maxRecDepth 100000 in
theorem dX9_firstCross_39 : decode cX9_firstCross 39 = .ok (.goto (-26), 3) := (op_167 nb_dX9_firstCross_33.2.2.2.2.1).trans rfl
set_option maxRecDepth 100000 in
theorem dX9_firstCross_42 : decode cX9_firstCross 42 = .ok (.iinc 2 1, 3) := (op_132 nb_dX9_firstCross_33.2.2.2.2.2.1).trans rfl
set_option maxRecDepth 100000 in
theorem dX9_firstCross_45 : decode cX9_firstCross 45 = .ok (.goto (-43), 3) := (op_167 nb_dX9_firstCross_33.2.2.2.2.2.2.1).trans rfl
set_option maxRecDepth 100000 in
theorem dX9_firstCross_48 : decode cX9_firstCross 48 = .ok (.bipush (-2), 2) := (op_16 nb_dX9_firstCross_33.2.2.2.2.2.2.2.1).trans rfl
theorem dX9_firstCross_50 : decode cX9_firstCross 50 = .ok (.ireturn, 1) := op_172 nb_dX9_firstCross_33.2.2.2.2.2.2.2.2.1
def fX9_firstCross_13 (N : Nat) (k_2 : Int32 → Int32 → List Int32 → Option (Int32)) : Nat → Int32 → Int32 → Int32 → List Int32 → Option (Int32)
  | 0 => fun _ _ _ _ => none
  | n + 1 => fun x1 x2 x3 v_placeIn =>
    if x1 ≤ (x3 + (1 : Int32)) then
    (mm_nm (x2 + (1 : Int32)) (fun (y_4 : Int32) =>
    k_2 x1 y_4 v_placeIn))
    else (mm_bd1 (fX9_areCrossed N x2 x3 v_placeIn) (fun (r_5 : Bool) =>
    if r_5 = false then
    (mm_nm (x3 + (2 : Int32)) (fun (y_8 : Int32) =>
    fX9_firstCross_13 N k_2 n x1 x2 y_8 v_placeIn))
    else (some ((((10 : Int32) * x2) + x3)))))

set_option maxHeartbeats 4000000 in
set_option maxRecDepth 100000 in
theorem tX9_firstCross_13 {p : Program} {l : Launch} {e : Env} {s : State} {m : MethodId} {args : Array Value} {below : List Frame} {meth : Method} {c : Code} {D : va_G} {cI cL cS cH : ClassId} {A : Nat → Prop} {d : Nat} {a : Nat → Nat} (hd : 3 ≤ d) (C0 : mm_Cx p s m args meth c RX9 cX9_firstCross 4 (some .int) D (mm_T cI cL cS cH) A) (hA : ∀ q, s.heap.size ≤ q → A q) {v_keptMany : Int32} {v_done : Int32} {v_rowsOf : Int32} {v_columnsOf : Int32} {v_folded : Int32} {v_wronged : Int32} {v_tapeMany : Int32} {v_textMany : Int32} {v_base : Int32} {v_at : Int32} {v_ends : Int32} {v_fault : Int32} {v_opened : Int32} {v_bentMany : Int32} {v_bentWrong : Int32} {v_moreWorn : Int32} {v_planned : Int32} {v_allWrong : Int32} {v_allWorn : Int32} {v_z : Int32} {v_wishedField : Int32} {v_isFound : Bool} {v_bestWrong : Int32} {v_bestWorn : Int32} {v_bestMany : Int32} {v_soughtBy : Int32} {v_sought : Int32} {v_soughtAt : Int32} {v_foundMany : Int32} {v_foundOrder : Int32} {v_isKept : Bool} {v_imageRows : Int32} {v_imageColumns : Int32} {v_imageFolded : Int32} {v_imageWronged : Int32} {v_bodies : Int32} {v_ran : Int32} {v_ownKind : Int32} {v_ownNumber : Int32} {v_limit : List Int32} {v_changeWas : List Int32} {v_changeIs : List Int32} {v_shapeRows : List Int32} {v_shapeColumns : List Int32} {v_row : List Int32} {v_column : List Int32} {v_below : List Int32} {v_face : List Int32} {v_worn : List Int32} {v_lastBend : List Int32} {v_tape : List Int32} {v_text : List Int32} {v_names : List Int32} {v_bends : List Int32} {v_high : List Int32} {v_to : List Int32} {v_pileSize : List Int32} {v_planLine : List Int32} {v_planWay : List Int32} {v_way1 : List Int32} {v_bestWay : List Int32} {v_order1 : List Int32} {v_bodyKind : List Int32} {v_trace : List Int32} {v_shelf : List Int32} {v_many : List Int32} {v_items : List Int64} {v_carried : List Int64} {r : Int32} (N : Nat) {k_2 : Int32 → Int32 → List Int32 → Option (Int32)} (hk_2 : ∀ (x1 : Int32) (x2 : Int32) (v_placeIn : List Int32) (H : Heap) (locs : List Loc) (ls : Array Slot), k_2 x1 x2 v_placeIn = some r → va_P D mm_cl (wd_X9 cI cL cS cH a v_keptMany v_done v_rowsOf v_columnsOf v_folded v_wronged v_tapeMany v_textMany v_base v_at v_ends v_fault v_opened v_bentMany v_bentWrong v_moreWorn v_planned v_allWrong v_allWorn v_z v_wishedField v_isFound v_bestWrong v_bestWorn v_bestMany v_soughtBy v_sought v_soughtAt v_foundMany v_foundOrder v_isKept v_imageRows v_imageColumns v_imageFolded v_imageWronged v_bodies v_ran v_ownKind v_ownNumber v_limit v_changeWas v_changeIs v_shapeRows v_shapeColumns v_row v_column v_below v_face v_worn v_lastBend v_tape v_text v_names v_bends v_high v_to v_pileSize v_planLine v_planWay v_way1 v_bestWay v_order1 v_placeIn v_bodyKind v_trace v_shelf v_many v_items v_carried) H → va_D A (wd_X9 cI cL cS cH a v_keptMany v_done v_rowsOf v_columnsOf v_folded v_wronged v_tapeMany v_textMany v_base v_at v_ends v_fault v_opened v_bentMany v_bentWrong v_moreWorn v_planned v_allWrong v_allWorn v_z v_wishedField v_isFound v_bestWrong v_bestWorn v_bestMany v_soughtBy v_sought v_soughtAt v_foundMany v_foundOrder v_isKept v_imageRows v_imageColumns v_imageFolded v_imageWronged v_bodies v_ran v_ownKind v_ownNumber v_limit v_changeWas v_changeIs v_shapeRows v_shapeColumns v_row v_column v_below v_face v_worn v_lastBend v_tape v_text v_names v_bends v_high v_to v_pileSize v_planLine v_planWay v_way1 v_bestWay v_order1 v_placeIn v_bodyKind v_trace v_shelf v_many v_items v_carried) → va_S A s.heap H locs → lv_has ls 4 [(0, .ref (a 0)), (1, .int x1), (2, .int x2)] → W p l e (mm_rr d) s m args below meth c H locs 0 0 (mm_Z below D A (wd_X9 cI cL cS cH a v_keptMany v_done v_rowsOf v_columnsOf v_folded v_wronged v_tapeMany v_textMany v_base v_at v_ends v_fault v_opened v_bentMany v_bentWrong v_moreWorn v_planned v_allWrong v_allWorn v_z v_wishedField v_isFound v_bestWrong v_bestWorn v_bestMany v_soughtBy v_sought v_soughtAt v_foundMany v_foundOrder v_isKept v_imageRows v_imageColumns v_imageFolded v_imageWronged v_bodies v_ran v_ownKind v_ownNumber v_limit v_changeWas v_changeIs v_shapeRows v_shapeColumns v_row v_column v_below v_face v_worn v_lastBend v_tape v_text v_names v_bends v_high v_to v_pileSize v_planLine v_planWay v_way1 v_bestWay v_order1 v_placeIn v_bodyKind v_trace v_shelf v_many v_items v_carried) (some (.int r)) args s) (F0 m 2 ls [])) : ∀ (n : Nat), ∀ (x1 : Int32) (x2 : Int32) (x3 : Int32) (v_placeIn : List Int32) (H : Heap) (locs : List Loc) (ls : Array Slot), fX9_firstCross_13 N k_2 n x1 x2 x3 v_placeIn = some r → va_P D mm_cl (wd_X9 cI cL cS cH a v_keptMany v_done v_rowsOf v_columnsOf v_folded v_wronged v_tapeMany v_textMany v_base v_at v_ends v_fault v_opened v_bentMany v_bentWrong v_moreWorn v_planned v_allWrong v_allWorn v_z v_wishedField v_isFound v_bestWrong v_bestWorn v_bestMany v_soughtBy v_sought v_soughtAt v_foundMany v_foundOrder v_isKept v_imageRows v_imageColumns v_imageFolded v_imageWronged v_bodies v_ran v_ownKind v_ownNumber v_limit v_changeWas v_changeIs v_shapeRows v_shapeColumns v_row v_column v_below v_face v_worn v_lastBend v_tape v_text v_names v_bends v_high v_to v_pileSize v_planLine v_planWay v_way1 v_bestWay v_order1 v_placeIn v_bodyKind v_trace v_shelf v_many v_items v_carried) H → va_D A (wd_X9 cI cL cS cH a v_keptMany v_done v_rowsOf v_columnsOf v_folded v_wronged v_tapeMany v_textMany v_base v_at v_ends v_fault v_opened v_bentMany v_bentWrong v_moreWorn v_planned v_allWrong v_allWorn v_z v_wishedField v_isFound v_bestWrong v_bestWorn v_bestMany v_soughtBy v_sought v_soughtAt v_foundMany v_foundOrder v_isKept v_imageRows v_imageColumns v_imageFolded v_imageWronged v_bodies v_ran v_ownKind v_ownNumber v_limit v_changeWas v_changeIs v_shapeRows v_shapeColumns v_row v_column v_below v_face v_worn v_lastBend v_tape v_text v_names v_bends v_high v_to v_pileSize v_planLine v_planWay v_way1 v_bestWay v_order1 v_placeIn v_bodyKind v_trace v_shelf v_many v_items v_carried) → va_S A s.heap H locs → lv_has ls 4 [(0, .ref (a 0)), (1, .int x1), (2, .int x2), (3, .int x3)] → W p l e (mm_rr d) s m args below meth c H locs 0 0 (mm_Z below D A (wd_X9 cI cL cS cH a v_keptMany v_done v_rowsOf v_columnsOf v_folded v_wronged v_tapeMany v_textMany v_base v_at v_ends v_fault v_opened v_bentMany v_bentWrong v_moreWorn v_planned v_allWrong v_allWorn v_z v_wishedField v_isFound v_bestWrong v_bestWorn v_bestMany v_soughtBy v_sought v_soughtAt v_foundMany v_foundOrder v_isKept v_imageRows v_imageColumns v_imageFolded v_imageWronged v_bodies v_ran v_ownKind v_ownNumber v_limit v_changeWas v_changeIs v_shapeRows v_shapeColumns v_row v_column v_below v_face v_worn v_lastBend v_tape v_text v_names v_bends v_high v_to v_pileSize v_planLine v_planWay v_way1 v_bestWay v_order1 v_placeIn v_bodyKind v_trace v_shelf v_many v_items v_carried) (some (.int r)) args s) (F0 m 13 ls []) := by
  obtain ⟨hx, hb, hml, hown, hts, hr, hlocks, hK, hSt⟩ := id C0
  intro n
  induction n with
  | zero =>
    intro x1 x2 x3 v_placeIn H locs ls hf
    cases (show none = some _ from hf)
  | succ n ih =>
    intro x1 x2 x3 v_placeIn H locs ls hf hP hD hS hl
    unfold fX9_firstCross_13 at hf
    refine lv_iload_n hx hb dX9_firstCross_13 rfl (lv_at hl 3 rfl) ?_
    refine lv_iconst (v := 1) hx hb dX9_firstCross_14 (by decide) ?_
    refine lv_iadd hx hb dX9_firstCross_15 ?_
    refine lv_iload_n hx hb dX9_firstCross_16 rfl (lv_at hl 1 rfl) ?_
    refine lv_icmp_ge (tgt := 42) hx hb dX9_firstCross_17 (by decide) (fun c_3 => ?_) (fun c_3 => ?_)
    · have hf := mm_ip hf c_3
      obtain ⟨y_4, ey_4⟩ : ∃ z : Int32, z = x2 + (1 : Int32) := ⟨_, rfl⟩
      have hf := mm_nms hf ey_4
      refine lv_iinc (v := y_4) (lv' := [(2, .int y_4), (0, .ref (a 0)), (1, .int x1), (3, .int x3)]) hx hb dX9_firstCross_42 hl (k := 2) rfl (by rw [ey_4]; rfl) (by decide) rfl (fun ls hl => ?_)
      refine lv_goto (tgt := 2) hx hb dX9_firstCross_45 (by decide) ?_
      exact hk_2 _ _ _ H locs ls hf hP hD hS (lv_sub hl [1, 2, 0] rfl)
    · have hf := mm_in hf c_3
      refine lv_aload_n hx hb dX9_firstCross_20 rfl (lv_at hl 0 rfl) ?_
      refine lv_iload_n hx hb dX9_firstCross_21 rfl (lv_at hl 2 rfl) ?_
      refine lv_iload_n hx hb dX9_firstCross_22 rfl (lv_at hl 3 rfl) ?_
      obtain ⟨r_5, hc_6, hf⟩ := mm_bd1s hf
      refine mm_callVF (q0 := 0) (ci := 9) (rest := []) C0 lk_X9_340 (ctX9_areCrossed (a := a) (d := d - 1) (by omega) hc_6) (by omega) rfl hl.1 rfl (mm_cat rfl) dX9_firstCross_23 hP hD hA hS rfl rfl (fun H locs hP hD hS => ?_)
      refine W.eq (g2 := F0 m 26 ls [.int (mm_b r_5)]) rfl ?_
      refine lv_if_eq (tgt := 36) hx hb dX9_firstCross_26 (by decide) (fun c_7 => ?_) (fun c_7 => ?_)
      · have hf := mm_ip hf (mm_b0 c_7)
        obtain ⟨y_8, ey_8⟩ : ∃ z : Int32, z = x3 + (2 : Int32) := ⟨_, rfl⟩
        have hf := mm_nms hf ey_8
        refine lv_iinc (v := y_8) (lv' := [(3, .int y_8), (0, .ref (a 0)), (1, .int x1), (2, .int x2)]) hx hb dX9_firstCross_36 hl (k := 3) rfl (by rw [ey_8]; rfl) (by decide) rfl (fun ls hl => ?_)
        refine lv_goto (tgt := 13) hx hb dX9_firstCross_39 (by decide) ?_
        exact ih _ _ _ _ H locs ls hf hP hD hS (lv_sub hl [1, 2, 3, 0] rfl)
      · have hf := mm_in hf (mm_b1 c_7)
        refine lv_bipush (v := 10) hx hb dX9_firstCross_29 (by decide) ?_
        refine lv_iload_n hx hb dX9_firstCross_31 rfl (lv_at hl 2 rfl) ?_
        refine lv_imul hx hb dX9_firstCross_32 ?_
        refine lv_iload_n hx hb dX9_firstCross_33 rfl (lv_at hl 3 rfl) ?_
        refine lv_iadd hx hb dX9_firstCross_34 ?_
        obtain rfl := mm_inj1 hf
        exact mm_iret C0 hP hD hS dX9_firstCross_35

def fX9_firstCross_2 (N : Nat)  : Nat → Int32 → Int32 → List Int32 → Option (Int32)
  | 0 => fun _ _ _ => none
  | n + 1 => fun x1 x2 v_placeIn =>
    if x1 ≤ (x2 + (1 : Int32)) then
    (some ((-2 : Int32)))
    else (mm_nm ((x2 + (2 : Int32))) (fun (y_2 : Int32) =>
    fX9_firstCross_13 N (fX9_firstCross_2 N n) N x1 x2 y_2 v_placeIn))

set_option maxHeartbeats 4000000 in
set_option maxRecDepth 100000 in
theorem tX9_firstCross_2 {p : Program} {l : Launch} {e : Env} {s : State} {m : MethodId} {args : Array Value} {below : List Frame} {meth : Method} {c : Code} {D : va_G} {cI cL cS cH : ClassId} {A : Nat → Prop} {d : Nat} {a : Nat → Nat} (hd : 3 ≤ d) (C0 : mm_Cx p s m args meth c RX9 cX9_firstCross 4 (some .int) D (mm_T cI cL cS cH) A) (hA : ∀ q, s.heap.size ≤ q → A q) {v_keptMany : Int32} {v_done : Int32} {v_rowsOf : Int32} {v_columnsOf : Int32} {v_folded : Int32} {v_wronged : Int32} {v_tapeMany : Int32} {v_textMany : Int32} {v_base : Int32} {v_at : Int32} {v_ends : Int32} {v_fault : Int32} {v_opened : Int32} {v_bentMany : Int32} {v_bentWrong : Int32} {v_moreWorn : Int32} {v_planned : Int32} {v_allWrong : Int32} {v_allWorn : Int32} {v_z : Int32} {v_wishedField : Int32} {v_isFound : Bool} {v_bestWrong : Int32} {v_bestWorn : Int32} {v_bestMany : Int32} {v_soughtBy : Int32} {v_sought : Int32} {v_soughtAt : Int32} {v_foundMany : Int32} {v_foundOrder : Int32} {v_isKept : Bool} {v_imageRows : Int32} {v_imageColumns : Int32} {v_imageFolded : Int32} {v_imageWronged : Int32} {v_bodies : Int32} {v_ran : Int32} {v_ownKind : Int32} {v_ownNumber : Int32} {v_limit : List Int32} {v_changeWas : List Int32} {v_changeIs : List Int32} {v_shapeRows : List Int32} {v_shapeColumns : List Int32} {v_row : List Int32} {v_column : List Int32} {v_below : List Int32} {v_face : List Int32} {v_worn : List Int32} {v_lastBend : List Int32} {v_tape : List Int32} {v_text : List Int32} {v_names : List Int32} {v_bends : List Int32} {v_high : List Int32} {v_to : List Int32} {v_pileSize : List Int32} {v_planLine : List Int32} {v_planWay : List Int32} {v_way1 : List Int32} {v_bestWay : List Int32} {v_order1 : List Int32} {v_bodyKind : List Int32} {v_trace : List Int32} {v_shelf : List Int32} {v_many : List Int32} {v_items : List Int64} {v_carried : List Int64} {r : Int32} (N : Nat)  : ∀ (n : Nat), ∀ (x1 : Int32) (x2 : Int32) (v_placeIn : List Int32) (H : Heap) (locs : List Loc) (ls : Array Slot), fX9_firstCross_2 N n x1 x2 v_placeIn = some r → va_P D mm_cl (wd_X9 cI cL cS cH a v_keptMany v_done v_rowsOf v_columnsOf v_folded v_wronged v_tapeMany v_textMany v_base v_at v_ends v_fault v_opened v_bentMany v_bentWrong v_moreWorn v_planned v_allWrong v_allWorn v_z v_wishedField v_isFound v_bestWrong v_bestWorn v_bestMany v_soughtBy v_sought v_soughtAt v_foundMany v_foundOrder v_isKept v_imageRows v_imageColumns v_imageFolded v_imageWronged v_bodies v_ran v_ownKind v_ownNumber v_limit v_changeWas v_changeIs v_shapeRows v_shapeColumns v_row v_column v_below v_face v_worn v_lastBend v_tape v_text v_names v_bends v_high v_to v_pileSize v_planLine v_planWay v_way1 v_bestWay v_order1 v_placeIn v_bodyKind v_trace v_shelf v_many v_items v_carried) H → va_D A (wd_X9 cI cL cS cH a v_keptMany v_done v_rowsOf v_columnsOf v_folded v_wronged v_tapeMany v_textMany v_base v_at v_ends v_fault v_opened v_bentMany v_bentWrong v_moreWorn v_planned v_allWrong v_allWorn v_z v_wishedField v_isFound v_bestWrong v_bestWorn v_bestMany v_soughtBy v_sought v_soughtAt v_foundMany v_foundOrder v_isKept v_imageRows v_imageColumns v_imageFolded v_imageWronged v_bodies v_ran v_ownKind v_ownNumber v_limit v_changeWas v_changeIs v_shapeRows v_shapeColumns v_row v_column v_below v_face v_worn v_lastBend v_tape v_text v_names v_bends v_high v_to v_pileSize v_planLine v_planWay v_way1 v_bestWay v_order1 v_placeIn v_bodyKind v_trace v_shelf v_many v_items v_carried) → va_S A s.heap H locs → lv_has ls 4 [(0, .ref (a 0)), (1, .int x1), (2, .int x2)] → W p l e (mm_rr d) s m args below meth c H locs 0 0 (mm_Z below D A (wd_X9 cI cL cS cH a v_keptMany v_done v_rowsOf v_columnsOf v_folded v_wronged v_tapeMany v_textMany v_base v_at v_ends v_fault v_opened v_bentMany v_bentWrong v_moreWorn v_planned v_allWrong v_allWorn v_z v_wishedField v_isFound v_bestWrong v_bestWorn v_bestMany v_soughtBy v_sought v_soughtAt v_foundMany v_foundOrder v_isKept v_imageRows v_imageColumns v_imageFolded v_imageWronged v_bodies v_ran v_ownKind v_ownNumber v_limit v_changeWas v_changeIs v_shapeRows v_shapeColumns v_row v_column v_below v_face v_worn v_lastBend v_tape v_text v_names v_bends v_high v_to v_pileSize v_planLine v_planWay v_way1 v_bestWay v_order1 v_placeIn v_bodyKind v_trace v_shelf v_many v_items v_carried) (some (.int r)) args s) (F0 m 2 ls []) := by
  obtain ⟨hx, hb, hml, hown, hts, hr, hlocks, hK, hSt⟩ := id C0
  intro n
  induction n with
  | zero =>
    intro x1 x2 v_placeIn H locs ls hf
    cases (show none = some _ from hf)
  | succ n ih =>
    intro x1 x2 v_placeIn H locs ls hf hP hD hS hl
    unfold fX9_firstCross_2 at hf
    refine lv_iload_n hx hb dX9_firstCross_2 rfl (lv_at hl 2 rfl) ?_
    refine lv_iconst (v := 1) hx hb dX9_firstCross_3 (by decide) ?_
    refine lv_iadd hx hb dX9_firstCross_4 ?_
    refine lv_iload_n hx hb dX9_firstCross_5 rfl (lv_at hl 1 rfl) ?_
    refine lv_icmp_ge (tgt := 48) hx hb dX9_firstCross_6 (by decide) (fun c_1 => ?_) (fun c_1 => ?_)
    · have hf := mm_ip hf c_1
      refine lv_bipush (v := -2) hx hb dX9_firstCross_48 (by decide) ?_
      obtain rfl := mm_inj1 hf
      exact mm_iret C0 hP hD hS dX9_firstCross_50
    · have hf := mm_in hf c_1
      refine lv_iload_n hx hb dX9_firstCross_9 rfl (lv_at hl 2 rfl) ?_
      refine lv_iconst (v := 2) hx hb dX9_firstCross_10 (by decide) ?_
      refine lv_iadd hx hb dX9_firstCross_11 ?_
      refine lv_topi (fun y_2 ey_2 => ?_)
      have hf := mm_nms hf ey_2
      refine lv_istore_n (lv' := [(3, .int y_2), (0, .ref (a 0)), (1, .int x1), (2, .int x2)]) hx hb dX9_firstCross_12 rfl hl (by decide) rfl (fun ls hl => ?_)
      exact tX9_firstCross_13 hd C0 hA N ih N _ _ _ _ H locs ls hf hP hD hS (lv_sub hl [1, 2, 3, 0] rfl)

def fX9_firstCross (N : Nat) (x1 : Int32) (v_placeIn : List Int32) : Option (Int32) :=
    fX9_firstCross_2 N N x1 (0 : Int32) v_placeIn

set_option maxHeartbeats 4000000 in
set_option maxRecDepth 100000 in
theorem ctX9_firstCross {l : Launch} {D : va_G} {cI cL cS cH : ClassId} {a : Nat → Nat} {x1 : Int32} {v_keptMany : Int32} {v_done : Int32} {v_rowsOf : Int32} {v_columnsOf : Int32} {v_folded : Int32} {v_wronged : Int32} {v_tapeMany : Int32} {v_textMany : Int32} {v_base : Int32} {v_at : Int32} {v_ends : Int32} {v_fault : Int32} {v_opened : Int32} {v_bentMany : Int32} {v_bentWrong : Int32} {v_moreWorn : Int32} {v_planned : Int32} {v_allWrong : Int32} {v_allWorn : Int32} {v_z : Int32} {v_wishedField : Int32} {v_isFound : Bool} {v_bestWrong : Int32} {v_bestWorn : Int32} {v_bestMany : Int32} {v_soughtBy : Int32} {v_sought : Int32} {v_soughtAt : Int32} {v_foundMany : Int32} {v_foundOrder : Int32} {v_isKept : Bool} {v_imageRows : Int32} {v_imageColumns : Int32} {v_imageFolded : Int32} {v_imageWronged : Int32} {v_bodies : Int32} {v_ran : Int32} {v_ownKind : Int32} {v_ownNumber : Int32} {v_limit : List Int32} {v_changeWas : List Int32} {v_changeIs : List Int32} {v_shapeRows : List Int32} {v_shapeColumns : List Int32} {v_row : List Int32} {v_column : List Int32} {v_below : List Int32} {v_face : List Int32} {v_worn : List Int32} {v_lastBend : List Int32} {v_tape : List Int32} {v_text : List Int32} {v_names : List Int32} {v_bends : List Int32} {v_high : List Int32} {v_to : List Int32} {v_pileSize : List Int32} {v_planLine : List Int32} {v_planWay : List Int32} {v_way1 : List Int32} {v_bestWay : List Int32} {v_order1 : List Int32} {v_placeIn : List Int32} {v_bodyKind : List Int32} {v_trace : List Int32} {v_shelf : List Int32} {v_many : List Int32} {v_items : List Int64} {v_carried : List Int64} {r : Int32} {N d : Nat} (hd : 3 ≤ d) (hf : fX9_firstCross N x1 v_placeIn = some r) : mm_Ct l yX9_firstCross cX9_firstCross 4 (some .int) d D (mm_T cI cL cS cH) [.ref (a 0), .int x1] (wd_X9 cI cL cS cH a v_keptMany v_done v_rowsOf v_columnsOf v_folded v_wronged v_tapeMany v_textMany v_base v_at v_ends v_fault v_opened v_bentMany v_bentWrong v_moreWorn v_planned v_allWrong v_allWorn v_z v_wishedField v_isFound v_bestWrong v_bestWorn v_bestMany v_soughtBy v_sought v_soughtAt v_foundMany v_foundOrder v_isKept v_imageRows v_imageColumns v_imageFolded v_imageWronged v_bodies v_ran v_ownKind v_ownNumber v_limit v_changeWas v_changeIs v_shapeRows v_shapeColumns v_row v_column v_below v_face v_worn v_lastBend v_tape v_text v_names v_bends v_high v_to v_pileSize v_planLine v_planWay v_way1 v_bestWay v_order1 v_placeIn v_bodyKind v_trace v_shelf v_many v_items v_carried) (wd_X9 cI cL cS cH a v_keptMany v_done v_rowsOf v_columnsOf v_folded v_wronged v_tapeMany v_textMany v_base v_at v_ends v_fault v_opened v_bentMany v_bentWrong v_moreWorn v_planned v_allWrong v_allWorn v_z v_wishedField v_isFound v_bestWrong v_bestWorn v_bestMany v_soughtBy v_sought v_soughtAt v_foundMany v_foundOrder v_isKept v_imageRows v_imageColumns v_imageFolded v_imageWronged v_bodies v_ran v_ownKind v_ownNumber v_limit v_changeWas v_changeIs v_shapeRows v_shapeColumns v_row v_column v_below v_face v_worn v_lastBend v_tape v_text v_names v_bends v_high v_to v_pileSize v_planLine v_planWay v_way1 v_bestWay v_order1 v_placeIn v_bodyKind v_trace v_shelf v_many v_items v_carried) (some (.int r)) := by
  refine mm_of (by decide) (Nat.le_of_ble_eq_true rfl) ?_
  intro p e s m args below meth c A H locs ls C0 hP hD hA hS hl
  have C0 : mm_Cx p s m args meth c RX9 cX9_firstCross 4 (some .int) D (mm_T cI cL cS cH) A := C0
  obtain ⟨hx, hb, hml, hown, hts, hr, hlocks, hK, hSt⟩ := id C0
  have hl : lv_has ls 4 [(0, .ref (a 0)), (1, .int x1)] := hl
  unfold fX9_firstCross at hf
  refine lv_iconst (v := 0) hx hb dX9_firstCross_0 (by decide) ?_
  refine lv_istore_n (lv' := [(2, .int (0 : Int32)), (0, .ref (a 0)), (1, .int x1)]) hx hb dX9_firstCross_1 rfl hl (by decide) rfl (fun ls hl => ?_)
  exact tX9_firstCross_2 hd C0 hA N  N _ _ _ H locs ls hf hP hD hS (lv_sub hl [1, 2, 0] rfl)

theorem nb_dX9_crosses_0 : bls_w cX9_crosses [(0, [27]), (1, [184, 1, 87]), (4, [153, 0, 20]), (7, [42]), (8, [27]), (9, [28]), (10, [182, 1, 90]), (13, [153, 0, 11]), (16, [42]), (17, [27]), (18, [182, 1, 93]), (21, [167, 0, 4])] := bls_of (by decide +kernel)
theorem dX9_crosses_0 : decode cX9_crosses 0 = .ok (.iload_n 1, 1) := op_27 nb_dX9_crosses_0.1
set_option maxRecDepth 100000 in
theorem dX9_crosses_1 : decode cX9_crosses 1 = .ok (.invokestatic 343, 3) := (op_184 nb_dX9_crosses_0.2.1).trans rfl
set_option maxRecDepth 100000 in
theorem dX9_crosses_4 : decode cX9_crosses 4 = .ok (.ifCond .eq 20, 3) := (op_153 nb_dX9_crosses_0.2.2.1).trans rfl
theorem dX9_crosses_7 : decode cX9_crosses 7 = .ok (.aload_n 0, 1) := op_42 nb_dX9_crosses_0.2.2.2.1
theorem dX9_crosses_8 : decode cX9_crosses 8 = .ok (.iload_n 1, 1) := op_27 nb_dX9_crosses_0.2.2.2.2.1
theorem dX9_crosses_9 : decode cX9_crosses 9 = .ok (.iload_n 2, 1) := op_28 nb_dX9_crosses_0.2.2.2.2.2.1
set_option maxRecDepth 100000 in
theorem dX9_crosses_10 : decode cX9_crosses 10 = .ok (.invokevirtual 346, 3) := (op_182 nb_dX9_crosses_0.2.2.2.2.2.2.1).trans rfl
set_option maxRecDepth 100000 in
theorem dX9_crosses_13 : decode cX9_crosses 13 = .ok (.ifCond .eq 11, 3) := (op_153 nb_dX9_crosses_0.2.2.2.2.2.2.2.1).trans rfl
theorem dX9_crosses_16 : decode cX9_crosses 16 = .ok (.aload_n 0, 1) := op_42 nb_dX9_crosses_0.2.2.2.2.2.2.2.2.1
theorem dX9_crosses_17 : decode cX9_crosses 17 = .ok (.iload_n 1, 1) := op_27 nb_dX9_crosses_0.2.2.2.2.2.2.2.2.2.1
set_option maxRecDepth 100000 in
theorem dX9_crosses_18 : decode cX9_crosses 18 = .ok (.invokevirtual 349, 3) := (op_182 nb_dX9_crosses_0.2.2.2.2.2.2.2.2.2.2.1).trans rfl
set_option maxRecDepth 100000 in
theorem dX9_crosses_21 : decode cX9_crosses 21 = .ok (.goto 4, 3) := (op_167 nb_dX9_crosses_0.2.2.2.2.2.2.2.2.2.2.2.1).trans rfl
theorem nb_dX9_crosses_24 : bls_w cX9_crosses [(24, [2]), (25, [172])] := bls_of (by decide +kernel)
theorem dX9_crosses_24 : decode cX9_crosses 24 = .ok (.iconst (-1), 1) := op_2 nb_dX9_crosses_24.1
theorem dX9_crosses_25 : decode cX9_crosses 25 = .ok (.ireturn, 1) := op_172 nb_dX9_crosses_24.2.1
def fX9_crosses (N : Nat) (x1 : Int32) (x2 : Int32) (v_order1 : List Int32) (v_placeIn : List Int32) : Option (Int32 × List Int32 × List Int32) :=
    mm_bd1 (fX9_isStrip N x1) (fun (r_1 : Bool) =>
    if r_1 = false then
    (some ((-1 : Int32), v_order1, v_placeIn))
    else (mm_bd3 (fX9_isOrder N x1 x2 v_order1 v_placeIn) (fun (r_4 : Bool) (w_5 : List Int32) (w_6 : List Int32) =>
    if r_4 = false then
    (some ((-1 : Int32), w_5, w_6))
    else (mm_bd1 (fX9_firstCross N x1 w_6) (fun (r_9 : Int32) =>
    some (r_9, w_5, w_6))))))

set_option maxHeartbeats 4000000 in
set_option maxRecDepth 100000 in
theorem ctX9_crosses {l : Launch} {D : va_G} {cI cL cS cH : ClassId} {a : Nat → Nat} {x1 : Int32} {x2 : Int32} {v_keptMany : Int32} {v_done : Int32} {v_rowsOf : Int32} {v_columnsOf : Int32} {v_folded : Int32} {v_wronged : Int32} {v_tapeMany : Int32} {v_textMany : Int32} {v_base : Int32} {v_at : Int32} {v_ends : Int32} {v_fault : Int32} {v_opened : Int32} {v_bentMany : Int32} {v_bentWrong : Int32} {v_moreWorn : Int32} {v_planned : Int32} {v_allWrong : Int32} {v_allWorn : Int32} {v_z : Int32} {v_wishedField : Int32} {v_isFound : Bool} {v_bestWrong : Int32} {v_bestWorn : Int32} {v_bestMany : Int32} {v_soughtBy : Int32} {v_sought : Int32} {v_soughtAt : Int32} {v_foundMany : Int32} {v_foundOrder : Int32} {v_isKept : Bool} {v_imageRows : Int32} {v_imageColumns : Int32} {v_imageFolded : Int32} {v_imageWronged : Int32} {v_bodies : Int32} {v_ran : Int32} {v_ownKind : Int32} {v_ownNumber : Int32} {v_limit : List Int32} {v_changeWas : List Int32} {v_changeIs : List Int32} {v_shapeRows : List Int32} {v_shapeColumns : List Int32} {v_row : List Int32} {v_column : List Int32} {v_below : List Int32} {v_face : List Int32} {v_worn : List Int32} {v_lastBend : List Int32} {v_tape : List Int32} {v_text : List Int32} {v_names : List Int32} {v_bends : List Int32} {v_high : List Int32} {v_to : List Int32} {v_pileSize : List Int32} {v_planLine : List Int32} {v_planWay : List Int32} {v_way1 : List Int32} {v_bestWay : List Int32} {v_order1 : List Int32} {v_placeIn : List Int32} {v_bodyKind : List Int32} {v_trace : List Int32} {v_shelf : List Int32} {v_many : List Int32} {v_items : List Int64} {v_carried : List Int64} {r : Int32} {w_order1 : List Int32} {w_placeIn : List Int32} {N d : Nat} (hd : 4 ≤ d) (hf : fX9_crosses N x1 x2 v_order1 v_placeIn = some (r, w_order1, w_placeIn)) : mm_Ct l yX9_crosses cX9_crosses 3 (some .int) d D (mm_T cI cL cS cH) [.ref (a 0), .int x1, .int x2] (wd_X9 cI cL cS cH a v_keptMany v_done v_rowsOf v_columnsOf v_folded v_wronged v_tapeMany v_textMany v_base v_at v_ends v_fault v_opened v_bentMany v_bentWrong v_moreWorn v_planned v_allWrong v_allWorn v_z v_wishedField v_isFound v_bestWrong v_bestWorn v_bestMany v_soughtBy v_sought v_soughtAt v_foundMany v_foundOrder v_isKept v_imageRows v_imageColumns v_imageFolded v_imageWronged v_bodies v_ran v_ownKind v_ownNumber v_limit v_changeWas v_changeIs v_shapeRows v_shapeColumns v_row v_column v_below v_face v_worn v_lastBend v_tape v_text v_names v_bends v_high v_to v_pileSize v_planLine v_planWay v_way1 v_bestWay v_order1 v_placeIn v_bodyKind v_trace v_shelf v_many v_items v_carried) (wd_X9 cI cL cS cH a v_keptMany v_done v_rowsOf v_columnsOf v_folded v_wronged v_tapeMany v_textMany v_base v_at v_ends v_fault v_opened v_bentMany v_bentWrong v_moreWorn v_planned v_allWrong v_allWorn v_z v_wishedField v_isFound v_bestWrong v_bestWorn v_bestMany v_soughtBy v_sought v_soughtAt v_foundMany v_foundOrder v_isKept v_imageRows v_imageColumns v_imageFolded v_imageWronged v_bodies v_ran v_ownKind v_ownNumber v_limit v_changeWas v_changeIs v_shapeRows v_shapeColumns v_row v_column v_below v_face v_worn v_lastBend v_tape v_text v_names v_bends v_high v_to v_pileSize v_planLine v_planWay v_way1 v_bestWay w_order1 w_placeIn v_bodyKind v_trace v_shelf v_many v_items v_carried) (some (.int r)) := by
  refine mm_of (by decide) (Nat.le_of_ble_eq_true rfl) ?_
  intro p e s m args below meth c A H locs ls C0 hP hD hA hS hl
  have C0 : mm_Cx p s m args meth c RX9 cX9_crosses 3 (some .int) D (mm_T cI cL cS cH) A := C0
  obtain ⟨hx, hb, hml, hown, hts, hr, hlocks, hK, hSt⟩ := id C0
  have hl : lv_has ls 3 [(0, .ref (a 0)), (1, .int x1), (2, .int x2)] := hl
  unfold fX9_crosses at hf
  refine lv_iload_n hx hb dX9_crosses_0 rfl (lv_at hl 1 rfl) ?_
  obtain ⟨r_1, hc_2, hf⟩ := mm_bd1s hf
  refine mm_callS0 (rest := []) C0 lk_X9_343 (ctX9_isStrip (d := d - 1) (by omega) hc_2) (by omega) rfl hl.1 rfl (mm_cat rfl) dX9_crosses_1 hP hD hA hS (fun H locs hP hS => ?_)
  refine W.eq (g2 := F0 m 4 ls [.int (mm_b r_1)]) rfl ?_
  refine lv_if_eq (tgt := 24) hx hb dX9_crosses_4 (by decide) (fun c_3 => ?_) (fun c_3 => ?_)
  · have hf := mm_ip hf (mm_b0 c_3)
    refine lv_iconst (v := -1) hx hb dX9_crosses_24 (by decide) ?_
    apply mm_sub3 hf
    exact mm_iret C0 hP hD hS dX9_crosses_25
  · have hf := mm_in hf (mm_b1 c_3)
    refine lv_aload_n hx hb dX9_crosses_7 rfl (lv_at hl 0 rfl) ?_
    refine lv_iload_n hx hb dX9_crosses_8 rfl (lv_at hl 1 rfl) ?_
    refine lv_iload_n hx hb dX9_crosses_9 rfl (lv_at hl 2 rfl) ?_
    obtain ⟨r_4, w_5, w_6, hc_7, hf⟩ := mm_bd3s hf
    refine mm_callVF (q0 := 0) (ci := 9) (rest := []) C0 lk_X9_346 (ctX9_isOrder (a := a) (d := d - 1) (by omega) hc_7) (by omega) rfl hl.1 rfl (mm_cat rfl) dX9_crosses_10 hP hD hA hS rfl rfl (fun H locs hP hD hS => ?_)
    refine W.eq (g2 := F0 m 13 ls [.int (mm_b r_4)]) rfl ?_
    refine lv_if_eq (tgt := 24) hx hb dX9_crosses_13 (by decide) (fun c_8 => ?_) (fun c_8 => ?_)
    · have hf := mm_ip hf (mm_b0 c_8)
      refine lv_iconst (v := -1) hx hb dX9_crosses_24 (by decide) ?_
      apply mm_sub3 hf
      exact mm_iret C0 hP hD hS dX9_crosses_25
    · have hf := mm_in hf (mm_b1 c_8)
      refine lv_aload_n hx hb dX9_crosses_16 rfl (lv_at hl 0 rfl) ?_
      refine lv_iload_n hx hb dX9_crosses_17 rfl (lv_at hl 1 rfl) ?_
      obtain ⟨r_9, hc_10, hf⟩ := mm_bd1s hf
      refine mm_callVF (q0 := 0) (ci := 9) (rest := []) C0 lk_X9_349 (ctX9_firstCross (a := a) (d := d - 1) (by omega) hc_10) (by omega) rfl hl.1 rfl (mm_cat rfl) dX9_crosses_18 hP hD hA hS rfl rfl (fun H locs hP hD hS => ?_)
      refine W.eq (g2 := F0 m 21 ls [.int r_9]) rfl ?_
      refine lv_goto (tgt := 25) hx hb dX9_crosses_21 (by decide) ?_
      apply mm_sub3 hf
      exact mm_iret C0 hP hD hS dX9_crosses_25

theorem nb_dX9_bendsOf_0 : bls_w cX9_bendsOf [(0, [3]), (1, [61]), (2, [3]), (3, [62]), (4, [29]), (5, [4]), (6, [96]), (7, [27]), (8, [162, 0, 59]), (11, [42]), (12, [180, 0, 79]), (15, [29])] := bls_of (by decide +kernel)
theorem dX9_bendsOf_0 : decode cX9_bendsOf 0 = .ok (.iconst 0, 1) := op_3 nb_dX9_bendsOf_0.1
theorem dX9_bendsOf_1 : decode cX9_bendsOf 1 = .ok (.istore_n 2, 1) := op_61 nb_dX9_bendsOf_0.2.1
theorem dX9_bendsOf_2 : decode cX9_bendsOf 2 = .ok (.iconst 0, 1) := op_3 nb_dX9_bendsOf_0.2.2.1
theorem dX9_bendsOf_3 : decode cX9_bendsOf 3 = .ok (.istore_n 3, 1) := op_62 nb_dX9_bendsOf_0.2.2.2.1
theorem dX9_bendsOf_4 : decode cX9_bendsOf 4 = .ok (.iload_n 3, 1) := op_29 nb_dX9_bendsOf_0.2.2.2.2.1
theorem dX9_bendsOf_5 : decode cX9_bendsOf 5 = .ok (.iconst 1, 1) := op_4 nb_dX9_bendsOf_0.2.2.2.2.2.1
theorem dX9_bendsOf_6 : decode cX9_bendsOf 6 = .ok (.iadd, 1) := op_96 nb_dX9_bendsOf_0.2.2.2.2.2.2.1
theorem dX9_bendsOf_7 : decode cX9_bendsOf 7 = .ok (.iload_n 1, 1) := op_27 nb_dX9_bendsOf_0.2.2.2.2.2.2.2.1
set_option maxRecDepth 100000 in
theorem dX9_bendsOf_8 : decode cX9_bendsOf 8 = .ok (.if_icmp .ge 59, 3) := (op_162 nb_dX9_bendsOf_0.2.2.2.2.2.2.2.2.1).trans rfl
theorem dX9_bendsOf_11 : decode cX9_bendsOf 11 = .ok (.aload_n 0, 1) := op_42 nb_dX9_bendsOf_0.2.2.2.2.2.2.2.2.2.1
set_option maxRecDepth 100000 in
theorem dX9_bendsOf_12 : decode cX9_bendsOf 12 = .ok (.getfield 79, 3) := (op_180 nb_dX9_bendsOf_0.2.2.2.2.2.2.2.2.2.2.1).trans rfl
theorem dX9_bendsOf_15 : decode cX9_bendsOf 15 = .ok (.iload_n 3, 1) := op_29 nb_dX9_bendsOf_0.2.2.2.2.2.2.2.2.2.2.2.1
theorem nb_dX9_bendsOf_16 : bls_w cX9_bendsOf [(16, [46]), (17, [42]), (18, [180, 0, 79]), (21, [29]), (22, [4]), (23, [96]), (24, [46]), (25, [162, 0, 7]), (28, [4]), (29, [167, 0, 4]), (32, [3]), (33, [54, 4])] := bls_of (by decide +kernel)
theorem dX9_bendsOf_16 : decode cX9_bendsOf 16 = .ok (.iaload, 1) := op_46 nb_dX9_bendsOf_16.1
theorem dX9_bendsOf_17 : decode cX9_bendsOf 17 = .ok (.aload_n 0, 1) := op_42 nb_dX9_bendsOf_16.2.1
set_option maxRecDepth 100000 in
theorem dX9_bendsOf_18 : decode cX9_bendsOf 18 = .ok (.getfield 79, 3) := (op_180 nb_dX9_bendsOf_16.2.2.1).trans rfl
theorem dX9_bendsOf_21 : decode cX9_bendsOf 21 = .ok (.iload_n 3, 1) := op_29 nb_dX9_bendsOf_16.2.2.2.1
theorem dX9_bendsOf_22 : decode cX9_bendsOf 22 = .ok (.iconst 1, 1) := op_4 nb_dX9_bendsOf_16.2.2.2.2.1
theorem dX9_bendsOf_23 : decode cX9_bendsOf 23 = .ok (.iadd, 1) := op_96 nb_dX9_bendsOf_16.2.2.2.2.2.1
theorem dX9_bendsOf_24 : decode cX9_bendsOf 24 = .ok (.iaload, 1) := op_46 nb_dX9_bendsOf_16.2.2.2.2.2.2.1
set_option maxRecDepth 100000 in
theorem dX9_bendsOf_25 : decode cX9_bendsOf 25 = .ok (.if_icmp .ge 7, 3) := (op_162 nb_dX9_bendsOf_16.2.2.2.2.2.2.2.1).trans rfl
theorem dX9_bendsOf_28 : decode cX9_bendsOf 28 = .ok (.iconst 1, 1) := op_4 nb_dX9_bendsOf_16.2.2.2.2.2.2.2.2.1
set_option maxRecDepth 100000 in
theorem dX9_bendsOf_29 : decode cX9_bendsOf 29 = .ok (.goto 4, 3) := (op_167 nb_dX9_bendsOf_16.2.2.2.2.2.2.2.2.2.1).trans rfl
theorem dX9_bendsOf_32 : decode cX9_bendsOf 32 = .ok (.iconst 0, 1) := op_3 nb_dX9_bendsOf_16.2.2.2.2.2.2.2.2.2.2.1
set_option maxRecDepth 100000 in
theorem dX9_bendsOf_33 : decode cX9_bendsOf 33 = .ok (.istore 4, 2) := (op_54 nb_dX9_bendsOf_16.2.2.2.2.2.2.2.2.2.2.2.1).trans rfl
theorem nb_dX9_bendsOf_35 : bls_w cX9_bendsOf [(35, [28]), (36, [21, 4]), (38, [29]), (39, [5]), (40, [112]), (41, [154, 0, 7]), (44, [4]), (45, [167, 0, 4]), (48, [3]), (49, [160, 0, 9]), (52, [4]), (53, [29])] := bls_of (by decide +kernel)
theorem dX9_bendsOf_35 : decode cX9_bendsOf 35 = .ok (.iload_n 2, 1) := op_28 nb_dX9_bendsOf_35.1
set_option maxRecDepth 100000 in
theorem dX9_bendsOf_36 : decode cX9_bendsOf 36 = .ok (.iload 4, 2) := (op_21 nb_dX9_bendsOf_35.2.1).trans rfl
theorem dX9_bendsOf_38 : decode cX9_bendsOf 38 = .ok (.iload_n 3, 1) := op_29 nb_dX9_bendsOf_35.2.2.1
theorem dX9_bendsOf_39 : decode cX9_bendsOf 39 = .ok (.iconst 2, 1) := op_5 nb_dX9_bendsOf_35.2.2.2.1
theorem dX9_bendsOf_40 : decode cX9_bendsOf 40 = .ok (.irem, 1) := op_112 nb_dX9_bendsOf_35.2.2.2.2.1
set_option maxRecDepth 100000 in
theorem dX9_bendsOf_41 : decode cX9_bendsOf 41 = .ok (.ifCond .ne 7, 3) := (op_154 nb_dX9_bendsOf_35.2.2.2.2.2.1).trans rfl
theorem dX9_bendsOf_44 : decode cX9_bendsOf 44 = .ok (.iconst 1, 1) := op_4 nb_dX9_bendsOf_35.2.2.2.2.2.2.1
set_option maxRecDepth 100000 in
theorem dX9_bendsOf_45 : decode cX9_bendsOf 45 = .ok (.goto 4, 3) := (op_167 nb_dX9_bendsOf_35.2.2.2.2.2.2.2.1).trans rfl
theorem dX9_bendsOf_48 : decode cX9_bendsOf 48 = .ok (.iconst 0, 1) := op_3 nb_dX9_bendsOf_35.2.2.2.2.2.2.2.2.1
set_option maxRecDepth 100000 in
theorem dX9_bendsOf_49 : decode cX9_bendsOf 49 = .ok (.if_icmp .ne 9, 3) := (op_160 nb_dX9_bendsOf_35.2.2.2.2.2.2.2.2.2.1).trans rfl
theorem dX9_bendsOf_52 : decode cX9_bendsOf 52 = .ok (.iconst 1, 1) := op_4 nb_dX9_bendsOf_35.2.2.2.2.2.2.2.2.2.2.1
theorem dX9_bendsOf_53 : decode cX9_bendsOf 53 = .ok (.iload_n 3, 1) := op_29 nb_dX9_bendsOf_35.2.2.2.2.2.2.2.2.2.2.2.1
theorem nb_dX9_bendsOf_54 : bls_w cX9_bendsOf [(54, [120]), (55, [167, 0, 4]), (58, [3]), (59, [128]), (60, [61]), (61, [132, 3, 1]), (64, [167, 255, 196]), (67, [28]), (68, [172])] := bls_of (by decide +kernel)
theorem dX9_bendsOf_54 : decode cX9_bendsOf 54 = .ok (.ishl, 1) := op_120 nb_dX9_bendsOf_54.1
set_option maxRecDepth 100000 in
theorem dX9_bendsOf_55 : decode cX9_bendsOf 55 = .ok (.goto 4, 3) := (op_167 nb_dX9_bendsOf_54.2.1).trans rfl
theorem dX9_bendsOf_58 : decode cX9_bendsOf 58 = .ok (.iconst 0, 1) := op_3 nb_dX9_bendsOf_54.2.2.1
theorem dX9_bendsOf_59 : decode cX9_bendsOf 59 = .ok (.ior, 1) := op_128 nb_dX9_bendsOf_54.2.2.2.1
theorem dX9_bendsOf_60 : decode cX9_bendsOf 60 = .ok (.istore_n 2, 1) := op_61 nb_dX9_bendsOf_54.2.2.2.2.1
set_option maxRecDepth 100000 in
theorem dX9_bendsOf_61 : decode cX9_bendsOf 61 = .ok (.iinc 3 1, 3) := (op_132 nb_dX9_bendsOf_54.2.2.2.2.2.1).trans rfl
set_option maxRecDepth 100000 in
theorem dX9_bendsOf_64 : decode cX9_bendsOf 64 = .ok (.goto (-60), 3) := (op_167 nb_dX9_bendsOf_54.2.2.2.2.2.2.1).trans rfl
theorem dX9_bendsOf_67 : decode cX9_bendsOf 67 = .ok (.iload_n 2, 1) := op_28 nb_dX9_bendsOf_54.2.2.2.2.2.2.2.1
theorem dX9_bendsOf_68 : decode cX9_bendsOf 68 = .ok (.ireturn, 1) := op_172 nb_dX9_bendsOf_54.2.2.2.2.2.2.2.2.1
def fX9_bendsOf_59 (N : Nat) (k_4 : Int32 → Int32 → Int32 → List Int32 → Option (Int32)) (x1 : Int32) (x3 : Int32) (s0 : Int32) (s1 : Int32) (v_placeIn : List Int32) : Option (Int32) :=
    mm_nm ((s1 ||| s0)) (fun (y_8 : Int32) =>
    mm_nm (x3 + (1 : Int32)) (fun (y_9 : Int32) =>
    k_4 x1 y_8 y_9 v_placeIn))

set_option maxHeartbeats 4000000 in
set_option maxRecDepth 100000 in
theorem tX9_bendsOf_59 {p : Program} {l : Launch} {e : Env} {s : State} {m : MethodId} {args : Array Value} {below : List Frame} {meth : Method} {c : Code} {D : va_G} {cI cL cS cH : ClassId} {A : Nat → Prop} {d : Nat} {a : Nat → Nat} (hd : 1 ≤ d) (C0 : mm_Cx p s m args meth c RX9 cX9_bendsOf 5 (some .int) D (mm_T cI cL cS cH) A) (hA : ∀ q, s.heap.size ≤ q → A q) {v_keptMany : Int32} {v_done : Int32} {v_rowsOf : Int32} {v_columnsOf : Int32} {v_folded : Int32} {v_wronged : Int32} {v_tapeMany : Int32} {v_textMany : Int32} {v_base : Int32} {v_at : Int32} {v_ends : Int32} {v_fault : Int32} {v_opened : Int32} {v_bentMany : Int32} {v_bentWrong : Int32} {v_moreWorn : Int32} {v_planned : Int32} {v_allWrong : Int32} {v_allWorn : Int32} {v_z : Int32} {v_wishedField : Int32} {v_isFound : Bool} {v_bestWrong : Int32} {v_bestWorn : Int32} {v_bestMany : Int32} {v_soughtBy : Int32} {v_sought : Int32} {v_soughtAt : Int32} {v_foundMany : Int32} {v_foundOrder : Int32} {v_isKept : Bool} {v_imageRows : Int32} {v_imageColumns : Int32} {v_imageFolded : Int32} {v_imageWronged : Int32} {v_bodies : Int32} {v_ran : Int32} {v_ownKind : Int32} {v_ownNumber : Int32} {v_limit : List Int32} {v_changeWas : List Int32} {v_changeIs : List Int32} {v_shapeRows : List Int32} {v_shapeColumns : List Int32} {v_row : List Int32} {v_column : List Int32} {v_below : List Int32} {v_face : List Int32} {v_worn : List Int32} {v_lastBend : List Int32} {v_tape : List Int32} {v_text : List Int32} {v_names : List Int32} {v_bends : List Int32} {v_high : List Int32} {v_to : List Int32} {v_pileSize : List Int32} {v_planLine : List Int32} {v_planWay : List Int32} {v_way1 : List Int32} {v_bestWay : List Int32} {v_order1 : List Int32} {v_bodyKind : List Int32} {v_trace : List Int32} {v_shelf : List Int32} {v_many : List Int32} {v_items : List Int64} {v_carried : List Int64} {r : Int32} (N : Nat) {k_4 : Int32 → Int32 → Int32 → List Int32 → Option (Int32)} (hk_4 : ∀ (x1 : Int32) (x2 : Int32) (x3 : Int32) (v_placeIn : List Int32) (H : Heap) (locs : List Loc) (ls : Array Slot), k_4 x1 x2 x3 v_placeIn = some r → va_P D mm_cl (wd_X9 cI cL cS cH a v_keptMany v_done v_rowsOf v_columnsOf v_folded v_wronged v_tapeMany v_textMany v_base v_at v_ends v_fault v_opened v_bentMany v_bentWrong v_moreWorn v_planned v_allWrong v_allWorn v_z v_wishedField v_isFound v_bestWrong v_bestWorn v_bestMany v_soughtBy v_sought v_soughtAt v_foundMany v_foundOrder v_isKept v_imageRows v_imageColumns v_imageFolded v_imageWronged v_bodies v_ran v_ownKind v_ownNumber v_limit v_changeWas v_changeIs v_shapeRows v_shapeColumns v_row v_column v_below v_face v_worn v_lastBend v_tape v_text v_names v_bends v_high v_to v_pileSize v_planLine v_planWay v_way1 v_bestWay v_order1 v_placeIn v_bodyKind v_trace v_shelf v_many v_items v_carried) H → va_D A (wd_X9 cI cL cS cH a v_keptMany v_done v_rowsOf v_columnsOf v_folded v_wronged v_tapeMany v_textMany v_base v_at v_ends v_fault v_opened v_bentMany v_bentWrong v_moreWorn v_planned v_allWrong v_allWorn v_z v_wishedField v_isFound v_bestWrong v_bestWorn v_bestMany v_soughtBy v_sought v_soughtAt v_foundMany v_foundOrder v_isKept v_imageRows v_imageColumns v_imageFolded v_imageWronged v_bodies v_ran v_ownKind v_ownNumber v_limit v_changeWas v_changeIs v_shapeRows v_shapeColumns v_row v_column v_below v_face v_worn v_lastBend v_tape v_text v_names v_bends v_high v_to v_pileSize v_planLine v_planWay v_way1 v_bestWay v_order1 v_placeIn v_bodyKind v_trace v_shelf v_many v_items v_carried) → va_S A s.heap H locs → lv_has ls 5 [(0, .ref (a 0)), (1, .int x1), (2, .int x2), (3, .int x3)] → W p l e (mm_rr d) s m args below meth c H locs 0 0 (mm_Z below D A (wd_X9 cI cL cS cH a v_keptMany v_done v_rowsOf v_columnsOf v_folded v_wronged v_tapeMany v_textMany v_base v_at v_ends v_fault v_opened v_bentMany v_bentWrong v_moreWorn v_planned v_allWrong v_allWorn v_z v_wishedField v_isFound v_bestWrong v_bestWorn v_bestMany v_soughtBy v_sought v_soughtAt v_foundMany v_foundOrder v_isKept v_imageRows v_imageColumns v_imageFolded v_imageWronged v_bodies v_ran v_ownKind v_ownNumber v_limit v_changeWas v_changeIs v_shapeRows v_shapeColumns v_row v_column v_below v_face v_worn v_lastBend v_tape v_text v_names v_bends v_high v_to v_pileSize v_planLine v_planWay v_way1 v_bestWay v_order1 v_placeIn v_bodyKind v_trace v_shelf v_many v_items v_carried) (some (.int r)) args s) (F0 m 4 ls [])) : ∀ (x1 : Int32) (x3 : Int32) (s0 : Int32) (s1 : Int32) (v_placeIn : List Int32) (H : Heap) (locs : List Loc) (ls : Array Slot), fX9_bendsOf_59 N k_4 x1 x3 s0 s1 v_placeIn = some r → va_P D mm_cl (wd_X9 cI cL cS cH a v_keptMany v_done v_rowsOf v_columnsOf v_folded v_wronged v_tapeMany v_textMany v_base v_at v_ends v_fault v_opened v_bentMany v_bentWrong v_moreWorn v_planned v_allWrong v_allWorn v_z v_wishedField v_isFound v_bestWrong v_bestWorn v_bestMany v_soughtBy v_sought v_soughtAt v_foundMany v_foundOrder v_isKept v_imageRows v_imageColumns v_imageFolded v_imageWronged v_bodies v_ran v_ownKind v_ownNumber v_limit v_changeWas v_changeIs v_shapeRows v_shapeColumns v_row v_column v_below v_face v_worn v_lastBend v_tape v_text v_names v_bends v_high v_to v_pileSize v_planLine v_planWay v_way1 v_bestWay v_order1 v_placeIn v_bodyKind v_trace v_shelf v_many v_items v_carried) H → va_D A (wd_X9 cI cL cS cH a v_keptMany v_done v_rowsOf v_columnsOf v_folded v_wronged v_tapeMany v_textMany v_base v_at v_ends v_fault v_opened v_bentMany v_bentWrong v_moreWorn v_planned v_allWrong v_allWorn v_z v_wishedField v_isFound v_bestWrong v_bestWorn v_bestMany v_soughtBy v_sought v_soughtAt v_foundMany v_foundOrder v_isKept v_imageRows v_imageColumns v_imageFolded v_imageWronged v_bodies v_ran v_ownKind v_ownNumber v_limit v_changeWas v_changeIs v_shapeRows v_shapeColumns v_row v_column v_below v_face v_worn v_lastBend v_tape v_text v_names v_bends v_high v_to v_pileSize v_planLine v_planWay v_way1 v_bestWay v_order1 v_placeIn v_bodyKind v_trace v_shelf v_many v_items v_carried) → va_S A s.heap H locs → lv_has ls 5 [(0, .ref (a 0)), (1, .int x1), (3, .int x3)] → W p l e (mm_rr d) s m args below meth c H locs 0 0 (mm_Z below D A (wd_X9 cI cL cS cH a v_keptMany v_done v_rowsOf v_columnsOf v_folded v_wronged v_tapeMany v_textMany v_base v_at v_ends v_fault v_opened v_bentMany v_bentWrong v_moreWorn v_planned v_allWrong v_allWorn v_z v_wishedField v_isFound v_bestWrong v_bestWorn v_bestMany v_soughtBy v_sought v_soughtAt v_foundMany v_foundOrder v_isKept v_imageRows v_imageColumns v_imageFolded v_imageWronged v_bodies v_ran v_ownKind v_ownNumber v_limit v_changeWas v_changeIs v_shapeRows v_shapeColumns v_row v_column v_below v_face v_worn v_lastBend v_tape v_text v_names v_bends v_high v_to v_pileSize v_planLine v_planWay v_way1 v_bestWay v_order1 v_placeIn v_bodyKind v_trace v_shelf v_many v_items v_carried) (some (.int r)) args s) (F0 m 59 ls [.int s0, .int s1]) := by
  obtain ⟨hx, hb, hml, hown, hts, hr, hlocks, hK, hSt⟩ := id C0
  intro x1 x3 s0 s1 v_placeIn H locs ls hf hP hD hS hl
  unfold fX9_bendsOf_59 at hf
  refine lv_ior hx hb dX9_bendsOf_59 ?_
  refine lv_topi (fun y_8 ey_8 => ?_)
  have hf := mm_nms hf ey_8
  refine lv_istore_n (lv' := [(2, .int y_8), (0, .ref (a 0)), (1, .int x1), (3, .int x3)]) hx hb dX9_bendsOf_60 rfl hl (by decide) rfl (fun ls hl => ?_)
  obtain ⟨y_9, ey_9⟩ : ∃ z : Int32, z = x3 + (1 : Int32) := ⟨_, rfl⟩
  have hf := mm_nms hf ey_9
  refine lv_iinc (v := y_9) (lv' := [(3, .int y_9), (2, .int y_8), (0, .ref (a 0)), (1, .int x1)]) hx hb dX9_bendsOf_61 hl (k := 3) rfl (by rw [ey_9]; rfl) (by decide) rfl (fun ls hl => ?_)
  refine lv_goto (tgt := 4) hx hb dX9_bendsOf_64 (by decide) ?_
  exact hk_4 _ _ _ _ H locs ls hf hP hD hS (lv_sub hl [2, 3, 1, 0] rfl)

def fX9_bendsOf_49 (N : Nat) (k_4 : Int32 → Int32 → Int32 → List Int32 → Option (Int32)) (x1 : Int32) (x3 : Int32) (s0 : Int32) (s1 : Int32) (s2 : Int32) (v_placeIn : List Int32) : Option (Int32) :=
    if s1 = s0 then
    (fX9_bendsOf_59 N k_4 x1 x3 ((1 : Int32) <<< (x3 &&& 31)) s2 v_placeIn)
    else (fX9_bendsOf_59 N k_4 x1 x3 (0 : Int32) s2 v_placeIn)

set_option maxHeartbeats 4000000 in
set_option maxRecDepth 100000 in
theorem tX9_bendsOf_49 {p : Program} {l : Launch} {e : Env} {s : State} {m : MethodId} {args : Array Value} {below : List Frame} {meth : Method} {c : Code} {D : va_G} {cI cL cS cH : ClassId} {A : Nat → Prop} {d : Nat} {a : Nat → Nat} (hd : 1 ≤ d) (C0 : mm_Cx p s m args meth c RX9 cX9_bendsOf 5 (some .int) D (mm_T cI cL cS cH) A) (hA : ∀ q, s.heap.size ≤ q → A q) {v_keptMany : Int32} {v_done : Int32} {v_rowsOf : Int32} {v_columnsOf : Int32} {v_folded : Int32} {v_wronged : Int32} {v_tapeMany : Int32} {v_textMany : Int32} {v_base : Int32} {v_at : Int32} {v_ends : Int32} {v_fault : Int32} {v_opened : Int32} {v_bentMany : Int32} {v_bentWrong : Int32} {v_moreWorn : Int32} {v_planned : Int32} {v_allWrong : Int32} {v_allWorn : Int32} {v_z : Int32} {v_wishedField : Int32} {v_isFound : Bool} {v_bestWrong : Int32} {v_bestWorn : Int32} {v_bestMany : Int32} {v_soughtBy : Int32} {v_sought : Int32} {v_soughtAt : Int32} {v_foundMany : Int32} {v_foundOrder : Int32} {v_isKept : Bool} {v_imageRows : Int32} {v_imageColumns : Int32} {v_imageFolded : Int32} {v_imageWronged : Int32} {v_bodies : Int32} {v_ran : Int32} {v_ownKind : Int32} {v_ownNumber : Int32} {v_limit : List Int32} {v_changeWas : List Int32} {v_changeIs : List Int32} {v_shapeRows : List Int32} {v_shapeColumns : List Int32} {v_row : List Int32} {v_column : List Int32} {v_below : List Int32} {v_face : List Int32} {v_worn : List Int32} {v_lastBend : List Int32} {v_tape : List Int32} {v_text : List Int32} {v_names : List Int32} {v_bends : List Int32} {v_high : List Int32} {v_to : List Int32} {v_pileSize : List Int32} {v_planLine : List Int32} {v_planWay : List Int32} {v_way1 : List Int32} {v_bestWay : List Int32} {v_order1 : List Int32} {v_bodyKind : List Int32} {v_trace : List Int32} {v_shelf : List Int32} {v_many : List Int32} {v_items : List Int64} {v_carried : List Int64} {r : Int32} (N : Nat) {k_4 : Int32 → Int32 → Int32 → List Int32 → Option (Int32)} (hk_4 : ∀ (x1 : Int32) (x2 : Int32) (x3 : Int32) (v_placeIn : List Int32) (H : Heap) (locs : List Loc) (ls : Array Slot), k_4 x1 x2 x3 v_placeIn = some r → va_P D mm_cl (wd_X9 cI cL cS cH a v_keptMany v_done v_rowsOf v_columnsOf v_folded v_wronged v_tapeMany v_textMany v_base v_at v_ends v_fault v_opened v_bentMany v_bentWrong v_moreWorn v_planned v_allWrong v_allWorn v_z v_wishedField v_isFound v_bestWrong v_bestWorn v_bestMany v_soughtBy v_sought v_soughtAt v_foundMany v_foundOrder v_isKept v_imageRows v_imageColumns v_imageFolded v_imageWronged v_bodies v_ran v_ownKind v_ownNumber v_limit v_changeWas v_changeIs v_shapeRows v_shapeColumns v_row v_column v_below v_face v_worn v_lastBend v_tape v_text v_names v_bends v_high v_to v_pileSize v_planLine v_planWay v_way1 v_bestWay v_order1 v_placeIn v_bodyKind v_trace v_shelf v_many v_items v_carried) H → va_D A (wd_X9 cI cL cS cH a v_keptMany v_done v_rowsOf v_columnsOf v_folded v_wronged v_tapeMany v_textMany v_base v_at v_ends v_fault v_opened v_bentMany v_bentWrong v_moreWorn v_planned v_allWrong v_allWorn v_z v_wishedField v_isFound v_bestWrong v_bestWorn v_bestMany v_soughtBy v_sought v_soughtAt v_foundMany v_foundOrder v_isKept v_imageRows v_imageColumns v_imageFolded v_imageWronged v_bodies v_ran v_ownKind v_ownNumber v_limit v_changeWas v_changeIs v_shapeRows v_shapeColumns v_row v_column v_below v_face v_worn v_lastBend v_tape v_text v_names v_bends v_high v_to v_pileSize v_planLine v_planWay v_way1 v_bestWay v_order1 v_placeIn v_bodyKind v_trace v_shelf v_many v_items v_carried) → va_S A s.heap H locs → lv_has ls 5 [(0, .ref (a 0)), (1, .int x1), (2, .int x2), (3, .int x3)] → W p l e (mm_rr d) s m args below meth c H locs 0 0 (mm_Z below D A (wd_X9 cI cL cS cH a v_keptMany v_done v_rowsOf v_columnsOf v_folded v_wronged v_tapeMany v_textMany v_base v_at v_ends v_fault v_opened v_bentMany v_bentWrong v_moreWorn v_planned v_allWrong v_allWorn v_z v_wishedField v_isFound v_bestWrong v_bestWorn v_bestMany v_soughtBy v_sought v_soughtAt v_foundMany v_foundOrder v_isKept v_imageRows v_imageColumns v_imageFolded v_imageWronged v_bodies v_ran v_ownKind v_ownNumber v_limit v_changeWas v_changeIs v_shapeRows v_shapeColumns v_row v_column v_below v_face v_worn v_lastBend v_tape v_text v_names v_bends v_high v_to v_pileSize v_planLine v_planWay v_way1 v_bestWay v_order1 v_placeIn v_bodyKind v_trace v_shelf v_many v_items v_carried) (some (.int r)) args s) (F0 m 4 ls [])) : ∀ (x1 : Int32) (x3 : Int32) (s0 : Int32) (s1 : Int32) (s2 : Int32) (v_placeIn : List Int32) (H : Heap) (locs : List Loc) (ls : Array Slot), fX9_bendsOf_49 N k_4 x1 x3 s0 s1 s2 v_placeIn = some r → va_P D mm_cl (wd_X9 cI cL cS cH a v_keptMany v_done v_rowsOf v_columnsOf v_folded v_wronged v_tapeMany v_textMany v_base v_at v_ends v_fault v_opened v_bentMany v_bentWrong v_moreWorn v_planned v_allWrong v_allWorn v_z v_wishedField v_isFound v_bestWrong v_bestWorn v_bestMany v_soughtBy v_sought v_soughtAt v_foundMany v_foundOrder v_isKept v_imageRows v_imageColumns v_imageFolded v_imageWronged v_bodies v_ran v_ownKind v_ownNumber v_limit v_changeWas v_changeIs v_shapeRows v_shapeColumns v_row v_column v_below v_face v_worn v_lastBend v_tape v_text v_names v_bends v_high v_to v_pileSize v_planLine v_planWay v_way1 v_bestWay v_order1 v_placeIn v_bodyKind v_trace v_shelf v_many v_items v_carried) H → va_D A (wd_X9 cI cL cS cH a v_keptMany v_done v_rowsOf v_columnsOf v_folded v_wronged v_tapeMany v_textMany v_base v_at v_ends v_fault v_opened v_bentMany v_bentWrong v_moreWorn v_planned v_allWrong v_allWorn v_z v_wishedField v_isFound v_bestWrong v_bestWorn v_bestMany v_soughtBy v_sought v_soughtAt v_foundMany v_foundOrder v_isKept v_imageRows v_imageColumns v_imageFolded v_imageWronged v_bodies v_ran v_ownKind v_ownNumber v_limit v_changeWas v_changeIs v_shapeRows v_shapeColumns v_row v_column v_below v_face v_worn v_lastBend v_tape v_text v_names v_bends v_high v_to v_pileSize v_planLine v_planWay v_way1 v_bestWay v_order1 v_placeIn v_bodyKind v_trace v_shelf v_many v_items v_carried) → va_S A s.heap H locs → lv_has ls 5 [(0, .ref (a 0)), (1, .int x1), (3, .int x3)] → W p l e (mm_rr d) s m args below meth c H locs 0 0 (mm_Z below D A (wd_X9 cI cL cS cH a v_keptMany v_done v_rowsOf v_columnsOf v_folded v_wronged v_tapeMany v_textMany v_base v_at v_ends v_fault v_opened v_bentMany v_bentWrong v_moreWorn v_planned v_allWrong v_allWorn v_z v_wishedField v_isFound v_bestWrong v_bestWorn v_bestMany v_soughtBy v_sought v_soughtAt v_foundMany v_foundOrder v_isKept v_imageRows v_imageColumns v_imageFolded v_imageWronged v_bodies v_ran v_ownKind v_ownNumber v_limit v_changeWas v_changeIs v_shapeRows v_shapeColumns v_row v_column v_below v_face v_worn v_lastBend v_tape v_text v_names v_bends v_high v_to v_pileSize v_planLine v_planWay v_way1 v_bestWay v_order1 v_placeIn v_bodyKind v_trace v_shelf v_many v_items v_carried) (some (.int r)) args s) (F0 m 49 ls [.int s0, .int s1, .int s2]) := by
  obtain ⟨hx, hb, hml, hown, hts, hr, hlocks, hK, hSt⟩ := id C0
  intro x1 x3 s0 s1 s2 v_placeIn H locs ls hf hP hD hS hl
  unfold fX9_bendsOf_49 at hf
  refine lv_icmp_ne (tgt := 58) hx hb dX9_bendsOf_49 (by decide) (fun c_7 => ?_) (fun c_7 => ?_)
  · have hf := mm_in hf c_7
    refine lv_iconst (v := 0) hx hb dX9_bendsOf_58 (by decide) ?_
    exact tX9_bendsOf_59 hd C0 hA N hk_4 _ _ _ _ _ H locs ls hf hP hD hS (lv_sub hl [0, 1, 2] rfl)
  · have hf := mm_ip hf c_7
    refine lv_iconst (v := 1) hx hb dX9_bendsOf_52 (by decide) ?_
    refine lv_iload_n hx hb dX9_bendsOf_53 rfl (lv_at hl 2 rfl) ?_
    refine lv_ishl hx hb dX9_bendsOf_54 ?_
    refine lv_goto (tgt := 59) hx hb dX9_bendsOf_55 (by decide) ?_
    exact tX9_bendsOf_59 hd C0 hA N hk_4 _ _ _ _ _ H locs ls hf hP hD hS (lv_sub hl [0, 1, 2] rfl)

def fX9_bendsOf_33 (N : Nat) (k_4 : Int32 → Int32 → Int32 → List Int32 → Option (Int32)) (x1 : Int32) (x2 : Int32) (x3 : Int32) (s0 : Int32) (v_placeIn : List Int32) : Option (Int32) :=
    mm_ck (mm_nz (2 : Int32)) (if (mm_rem x3 (2 : Int32)) = 0 then
    (fX9_bendsOf_49 N k_4 x1 x3 (1 : Int32) s0 x2 v_placeIn)
    else (fX9_bendsOf_49 N k_4 x1 x3 (0 : Int32) s0 x2 v_placeIn))

set_option maxHeartbeats 4000000 in
set_option maxRecDepth 100000 in
theorem tX9_bendsOf_33 {p : Program} {l : Launch} {e : Env} {s : State} {m : MethodId} {args : Array Value} {below : List Frame} {meth : Method} {c : Code} {D : va_G} {cI cL cS cH : ClassId} {A : Nat → Prop} {d : Nat} {a : Nat → Nat} (hd : 1 ≤ d) (C0 : mm_Cx p s m args meth c RX9 cX9_bendsOf 5 (some .int) D (mm_T cI cL cS cH) A) (hA : ∀ q, s.heap.size ≤ q → A q) {v_keptMany : Int32} {v_done : Int32} {v_rowsOf : Int32} {v_columnsOf : Int32} {v_folded : Int32} {v_wronged : Int32} {v_tapeMany : Int32} {v_textMany : Int32} {v_base : Int32} {v_at : Int32} {v_ends : Int32} {v_fault : Int32} {v_opened : Int32} {v_bentMany : Int32} {v_bentWrong : Int32} {v_moreWorn : Int32} {v_planned : Int32} {v_allWrong : Int32} {v_allWorn : Int32} {v_z : Int32} {v_wishedField : Int32} {v_isFound : Bool} {v_bestWrong : Int32} {v_bestWorn : Int32} {v_bestMany : Int32} {v_soughtBy : Int32} {v_sought : Int32} {v_soughtAt : Int32} {v_foundMany : Int32} {v_foundOrder : Int32} {v_isKept : Bool} {v_imageRows : Int32} {v_imageColumns : Int32} {v_imageFolded : Int32} {v_imageWronged : Int32} {v_bodies : Int32} {v_ran : Int32} {v_ownKind : Int32} {v_ownNumber : Int32} {v_limit : List Int32} {v_changeWas : List Int32} {v_changeIs : List Int32} {v_shapeRows : List Int32} {v_shapeColumns : List Int32} {v_row : List Int32} {v_column : List Int32} {v_below : List Int32} {v_face : List Int32} {v_worn : List Int32} {v_lastBend : List Int32} {v_tape : List Int32} {v_text : List Int32} {v_names : List Int32} {v_bends : List Int32} {v_high : List Int32} {v_to : List Int32} {v_pileSize : List Int32} {v_planLine : List Int32} {v_planWay : List Int32} {v_way1 : List Int32} {v_bestWay : List Int32} {v_order1 : List Int32} {v_bodyKind : List Int32} {v_trace : List Int32} {v_shelf : List Int32} {v_many : List Int32} {v_items : List Int64} {v_carried : List Int64} {r : Int32} (N : Nat) {k_4 : Int32 → Int32 → Int32 → List Int32 → Option (Int32)} (hk_4 : ∀ (x1 : Int32) (x2 : Int32) (x3 : Int32) (v_placeIn : List Int32) (H : Heap) (locs : List Loc) (ls : Array Slot), k_4 x1 x2 x3 v_placeIn = some r → va_P D mm_cl (wd_X9 cI cL cS cH a v_keptMany v_done v_rowsOf v_columnsOf v_folded v_wronged v_tapeMany v_textMany v_base v_at v_ends v_fault v_opened v_bentMany v_bentWrong v_moreWorn v_planned v_allWrong v_allWorn v_z v_wishedField v_isFound v_bestWrong v_bestWorn v_bestMany v_soughtBy v_sought v_soughtAt v_foundMany v_foundOrder v_isKept v_imageRows v_imageColumns v_imageFolded v_imageWronged v_bodies v_ran v_ownKind v_ownNumber v_limit v_changeWas v_changeIs v_shapeRows v_shapeColumns v_row v_column v_below v_face v_worn v_lastBend v_tape v_text v_names v_bends v_high v_to v_pileSize v_planLine v_planWay v_way1 v_bestWay v_order1 v_placeIn v_bodyKind v_trace v_shelf v_many v_items v_carried) H → va_D A (wd_X9 cI cL cS cH a v_keptMany v_done v_rowsOf v_columnsOf v_folded v_wronged v_tapeMany v_textMany v_base v_at v_ends v_fault v_opened v_bentMany v_bentWrong v_moreWorn v_planned v_allWrong v_allWorn v_z v_wishedField v_isFound v_bestWrong v_bestWorn v_bestMany v_soughtBy v_sought v_soughtAt v_foundMany v_foundOrder v_isKept v_imageRows v_imageColumns v_imageFolded v_imageWronged v_bodies v_ran v_ownKind v_ownNumber v_limit v_changeWas v_changeIs v_shapeRows v_shapeColumns v_row v_column v_below v_face v_worn v_lastBend v_tape v_text v_names v_bends v_high v_to v_pileSize v_planLine v_planWay v_way1 v_bestWay v_order1 v_placeIn v_bodyKind v_trace v_shelf v_many v_items v_carried) → va_S A s.heap H locs → lv_has ls 5 [(0, .ref (a 0)), (1, .int x1), (2, .int x2), (3, .int x3)] → W p l e (mm_rr d) s m args below meth c H locs 0 0 (mm_Z below D A (wd_X9 cI cL cS cH a v_keptMany v_done v_rowsOf v_columnsOf v_folded v_wronged v_tapeMany v_textMany v_base v_at v_ends v_fault v_opened v_bentMany v_bentWrong v_moreWorn v_planned v_allWrong v_allWorn v_z v_wishedField v_isFound v_bestWrong v_bestWorn v_bestMany v_soughtBy v_sought v_soughtAt v_foundMany v_foundOrder v_isKept v_imageRows v_imageColumns v_imageFolded v_imageWronged v_bodies v_ran v_ownKind v_ownNumber v_limit v_changeWas v_changeIs v_shapeRows v_shapeColumns v_row v_column v_below v_face v_worn v_lastBend v_tape v_text v_names v_bends v_high v_to v_pileSize v_planLine v_planWay v_way1 v_bestWay v_order1 v_placeIn v_bodyKind v_trace v_shelf v_many v_items v_carried) (some (.int r)) args s) (F0 m 4 ls [])) : ∀ (x1 : Int32) (x2 : Int32) (x3 : Int32) (s0 : Int32) (v_placeIn : List Int32) (H : Heap) (locs : List Loc) (ls : Array Slot), fX9_bendsOf_33 N k_4 x1 x2 x3 s0 v_placeIn = some r → va_P D mm_cl (wd_X9 cI cL cS cH a v_keptMany v_done v_rowsOf v_columnsOf v_folded v_wronged v_tapeMany v_textMany v_base v_at v_ends v_fault v_opened v_bentMany v_bentWrong v_moreWorn v_planned v_allWrong v_allWorn v_z v_wishedField v_isFound v_bestWrong v_bestWorn v_bestMany v_soughtBy v_sought v_soughtAt v_foundMany v_foundOrder v_isKept v_imageRows v_imageColumns v_imageFolded v_imageWronged v_bodies v_ran v_ownKind v_ownNumber v_limit v_changeWas v_changeIs v_shapeRows v_shapeColumns v_row v_column v_below v_face v_worn v_lastBend v_tape v_text v_names v_bends v_high v_to v_pileSize v_planLine v_planWay v_way1 v_bestWay v_order1 v_placeIn v_bodyKind v_trace v_shelf v_many v_items v_carried) H → va_D A (wd_X9 cI cL cS cH a v_keptMany v_done v_rowsOf v_columnsOf v_folded v_wronged v_tapeMany v_textMany v_base v_at v_ends v_fault v_opened v_bentMany v_bentWrong v_moreWorn v_planned v_allWrong v_allWorn v_z v_wishedField v_isFound v_bestWrong v_bestWorn v_bestMany v_soughtBy v_sought v_soughtAt v_foundMany v_foundOrder v_isKept v_imageRows v_imageColumns v_imageFolded v_imageWronged v_bodies v_ran v_ownKind v_ownNumber v_limit v_changeWas v_changeIs v_shapeRows v_shapeColumns v_row v_column v_below v_face v_worn v_lastBend v_tape v_text v_names v_bends v_high v_to v_pileSize v_planLine v_planWay v_way1 v_bestWay v_order1 v_placeIn v_bodyKind v_trace v_shelf v_many v_items v_carried) → va_S A s.heap H locs → lv_has ls 5 [(0, .ref (a 0)), (1, .int x1), (2, .int x2), (3, .int x3)] → W p l e (mm_rr d) s m args below meth c H locs 0 0 (mm_Z below D A (wd_X9 cI cL cS cH a v_keptMany v_done v_rowsOf v_columnsOf v_folded v_wronged v_tapeMany v_textMany v_base v_at v_ends v_fault v_opened v_bentMany v_bentWrong v_moreWorn v_planned v_allWrong v_allWorn v_z v_wishedField v_isFound v_bestWrong v_bestWorn v_bestMany v_soughtBy v_sought v_soughtAt v_foundMany v_foundOrder v_isKept v_imageRows v_imageColumns v_imageFolded v_imageWronged v_bodies v_ran v_ownKind v_ownNumber v_limit v_changeWas v_changeIs v_shapeRows v_shapeColumns v_row v_column v_below v_face v_worn v_lastBend v_tape v_text v_names v_bends v_high v_to v_pileSize v_planLine v_planWay v_way1 v_bestWay v_order1 v_placeIn v_bodyKind v_trace v_shelf v_many v_items v_carried) (some (.int r)) args s) (F0 m 33 ls [.int s0]) := by
  obtain ⟨hx, hb, hml, hown, hts, hr, hlocks, hK, hSt⟩ := id C0
  intro x1 x2 x3 s0 v_placeIn H locs ls hf hP hD hS hl
  unfold fX9_bendsOf_33 at hf
  refine lv_istore (lv' := [(4, .int s0), (0, .ref (a 0)), (1, .int x1), (2, .int x2), (3, .int x3)]) hx hb dX9_bendsOf_33 hl (by decide) rfl (fun ls hl => ?_)
  refine lv_iload_n hx hb dX9_bendsOf_35 rfl (lv_at hl 3 rfl) ?_
  refine lv_iload hx hb dX9_bendsOf_36 (lv_at hl 0 rfl) ?_
  refine lv_iload_n hx hb dX9_bendsOf_38 rfl (lv_at hl 4 rfl) ?_
  refine lv_iconst (v := 2) hx hb dX9_bendsOf_39 (by decide) ?_
  obtain ⟨h_5, hf⟩ := mm_cks hf
  refine lv_irem hx hb dX9_bendsOf_40 (mm_nzs h_5) ?_
  refine lv_if_ne (tgt := 48) hx hb dX9_bendsOf_41 (by decide) (fun c_6 => ?_) (fun c_6 => ?_)
  · have hf := mm_in hf c_6
    refine lv_iconst (v := 0) hx hb dX9_bendsOf_48 (by decide) ?_
    exact tX9_bendsOf_49 hd C0 hA N hk_4 _ _ _ _ _ _ H locs ls hf hP hD hS (lv_sub hl [1, 2, 4] rfl)
  · have hf := mm_ip hf c_6
    refine lv_iconst (v := 1) hx hb dX9_bendsOf_44 (by decide) ?_
    refine lv_goto (tgt := 49) hx hb dX9_bendsOf_45 (by decide) ?_
    exact tX9_bendsOf_49 hd C0 hA N hk_4 _ _ _ _ _ _ H locs ls hf hP hD hS (lv_sub hl [1, 2, 4] rfl)

def fX9_bendsOf_4 (N : Nat)  : Nat → Int32 → Int32 → Int32 → List Int32 → Option (Int32)
  | 0 => fun _ _ _ _ => none
  | n + 1 => fun x1 x2 x3 v_placeIn =>
    if x1 ≤ (x3 + (1 : Int32)) then
    (some (x2))
    else (mm_ck (mm_inb x3 v_placeIn.length) (mm_ck (mm_inb (x3 + (1 : Int32)) v_placeIn.length) (if (mm_ig v_placeIn (x3 + (1 : Int32))) ≤ (mm_ig v_placeIn x3) then
    (fX9_bendsOf_33 N (fX9_bendsOf_4 N n) x1 x2 x3 (0 : Int32) v_placeIn)
    else (fX9_bendsOf_33 N (fX9_bendsOf_4 N n) x1 x2 x3 (1 : Int32) v_placeIn))))

set_option maxHeartbeats 4000000 in
set_option maxRecDepth 100000 in
theorem tX9_bendsOf_4 {p : Program} {l : Launch} {e : Env} {s : State} {m : MethodId} {args : Array Value} {below : List Frame} {meth : Method} {c : Code} {D : va_G} {cI cL cS cH : ClassId} {A : Nat → Prop} {d : Nat} {a : Nat → Nat} (hd : 1 ≤ d) (C0 : mm_Cx p s m args meth c RX9 cX9_bendsOf 5 (some .int) D (mm_T cI cL cS cH) A) (hA : ∀ q, s.heap.size ≤ q → A q) {v_keptMany : Int32} {v_done : Int32} {v_rowsOf : Int32} {v_columnsOf : Int32} {v_folded : Int32} {v_wronged : Int32} {v_tapeMany : Int32} {v_textMany : Int32} {v_base : Int32} {v_at : Int32} {v_ends : Int32} {v_fault : Int32} {v_opened : Int32} {v_bentMany : Int32} {v_bentWrong : Int32} {v_moreWorn : Int32} {v_planned : Int32} {v_allWrong : Int32} {v_allWorn : Int32} {v_z : Int32} {v_wishedField : Int32} {v_isFound : Bool} {v_bestWrong : Int32} {v_bestWorn : Int32} {v_bestMany : Int32} {v_soughtBy : Int32} {v_sought : Int32} {v_soughtAt : Int32} {v_foundMany : Int32} {v_foundOrder : Int32} {v_isKept : Bool} {v_imageRows : Int32} {v_imageColumns : Int32} {v_imageFolded : Int32} {v_imageWronged : Int32} {v_bodies : Int32} {v_ran : Int32} {v_ownKind : Int32} {v_ownNumber : Int32} {v_limit : List Int32} {v_changeWas : List Int32} {v_changeIs : List Int32} {v_shapeRows : List Int32} {v_shapeColumns : List Int32} {v_row : List Int32} {v_column : List Int32} {v_below : List Int32} {v_face : List Int32} {v_worn : List Int32} {v_lastBend : List Int32} {v_tape : List Int32} {v_text : List Int32} {v_names : List Int32} {v_bends : List Int32} {v_high : List Int32} {v_to : List Int32} {v_pileSize : List Int32} {v_planLine : List Int32} {v_planWay : List Int32} {v_way1 : List Int32} {v_bestWay : List Int32} {v_order1 : List Int32} {v_bodyKind : List Int32} {v_trace : List Int32} {v_shelf : List Int32} {v_many : List Int32} {v_items : List Int64} {v_carried : List Int64} {r : Int32} (N : Nat)  : ∀ (n : Nat), ∀ (x1 : Int32) (x2 : Int32) (x3 : Int32) (v_placeIn : List Int32) (H : Heap) (locs : List Loc) (ls : Array Slot), fX9_bendsOf_4 N n x1 x2 x3 v_placeIn = some r → va_P D mm_cl (wd_X9 cI cL cS cH a v_keptMany v_done v_rowsOf v_columnsOf v_folded v_wronged v_tapeMany v_textMany v_base v_at v_ends v_fault v_opened v_bentMany v_bentWrong v_moreWorn v_planned v_allWrong v_allWorn v_z v_wishedField v_isFound v_bestWrong v_bestWorn v_bestMany v_soughtBy v_sought v_soughtAt v_foundMany v_foundOrder v_isKept v_imageRows v_imageColumns v_imageFolded v_imageWronged v_bodies v_ran v_ownKind v_ownNumber v_limit v_changeWas v_changeIs v_shapeRows v_shapeColumns v_row v_column v_below v_face v_worn v_lastBend v_tape v_text v_names v_bends v_high v_to v_pileSize v_planLine v_planWay v_way1 v_bestWay v_order1 v_placeIn v_bodyKind v_trace v_shelf v_many v_items v_carried) H → va_D A (wd_X9 cI cL cS cH a v_keptMany v_done v_rowsOf v_columnsOf v_folded v_wronged v_tapeMany v_textMany v_base v_at v_ends v_fault v_opened v_bentMany v_bentWrong v_moreWorn v_planned v_allWrong v_allWorn v_z v_wishedField v_isFound v_bestWrong v_bestWorn v_bestMany v_soughtBy v_sought v_soughtAt v_foundMany v_foundOrder v_isKept v_imageRows v_imageColumns v_imageFolded v_imageWronged v_bodies v_ran v_ownKind v_ownNumber v_limit v_changeWas v_changeIs v_shapeRows v_shapeColumns v_row v_column v_below v_face v_worn v_lastBend v_tape v_text v_names v_bends v_high v_to v_pileSize v_planLine v_planWay v_way1 v_bestWay v_order1 v_placeIn v_bodyKind v_trace v_shelf v_many v_items v_carried) → va_S A s.heap H locs → lv_has ls 5 [(0, .ref (a 0)), (1, .int x1), (2, .int x2), (3, .int x3)] → W p l e (mm_rr d) s m args below meth c H locs 0 0 (mm_Z below D A (wd_X9 cI cL cS cH a v_keptMany v_done v_rowsOf v_columnsOf v_folded v_wronged v_tapeMany v_textMany v_base v_at v_ends v_fault v_opened v_bentMany v_bentWrong v_moreWorn v_planned v_allWrong v_allWorn v_z v_wishedField v_isFound v_bestWrong v_bestWorn v_bestMany v_soughtBy v_sought v_soughtAt v_foundMany v_foundOrder v_isKept v_imageRows v_imageColumns v_imageFolded v_imageWronged v_bodies v_ran v_ownKind v_ownNumber v_limit v_changeWas v_changeIs v_shapeRows v_shapeColumns v_row v_column v_below v_face v_worn v_lastBend v_tape v_text v_names v_bends v_high v_to v_pileSize v_planLine v_planWay v_way1 v_bestWay v_order1 v_placeIn v_bodyKind v_trace v_shelf v_many v_items v_carried) (some (.int r)) args s) (F0 m 4 ls []) := by
  obtain ⟨hx, hb, hml, hown, hts, hr, hlocks, hK, hSt⟩ := id C0
  intro n
  induction n with
  | zero =>
    intro x1 x2 x3 v_placeIn H locs ls hf
    cases (show none = some _ from hf)
  | succ n ih =>
    intro x1 x2 x3 v_placeIn H locs ls hf hP hD hS hl
    unfold fX9_bendsOf_4 at hf
    refine lv_iload_n hx hb dX9_bendsOf_4 rfl (lv_at hl 3 rfl) ?_
    refine lv_iconst (v := 1) hx hb dX9_bendsOf_5 (by decide) ?_
    refine lv_iadd hx hb dX9_bendsOf_6 ?_
    refine lv_iload_n hx hb dX9_bendsOf_7 rfl (lv_at hl 1 rfl) ?_
    refine lv_icmp_ge (tgt := 67) hx hb dX9_bendsOf_8 (by decide) (fun c_1 => ?_) (fun c_1 => ?_)
    · have hf := mm_ip hf c_1
      refine lv_iload_n hx hb dX9_bendsOf_67 rfl (lv_at hl 2 rfl) ?_
      obtain rfl := mm_inj1 hf
      exact mm_iret C0 hP hD hS dX9_bendsOf_68
    · have hf := mm_in hf c_1
      refine lv_aload_n hx hb dX9_bendsOf_11 rfl (lv_at hl 0 rfl) ?_
      refine mm_get C0 hP iw_X9 0 rfl rfl 48 (by decide) fl_X9_79 rfl dX9_bendsOf_12 ?_
      refine lv_iload_n hx hb dX9_bendsOf_15 rfl (lv_at hl 3 rfl) ?_
      obtain ⟨h_2, hf⟩ := mm_cks hf
      refine mm_iald C0 hP 24 rfl h_2 dX9_bendsOf_16 ?_
      refine lv_aload_n hx hb dX9_bendsOf_17 rfl (lv_at hl 0 rfl) ?_
      refine mm_get C0 hP iw_X9 0 rfl rfl 48 (by decide) fl_X9_79 rfl dX9_bendsOf_18 ?_
      refine lv_iload_n hx hb dX9_bendsOf_21 rfl (lv_at hl 3 rfl) ?_
      refine lv_iconst (v := 1) hx hb dX9_bendsOf_22 (by decide) ?_
      refine lv_iadd hx hb dX9_bendsOf_23 ?_
      obtain ⟨h_3, hf⟩ := mm_cks hf
      refine mm_iald C0 hP 24 rfl h_3 dX9_bendsOf_24 ?_
      refine lv_icmp_ge (tgt := 32) hx hb dX9_bendsOf_25 (by decide) (fun c_4 => ?_) (fun c_4 => ?_)
      · have hf := mm_ip hf c_4
        refine lv_iconst (v := 0) hx hb dX9_bendsOf_32 (by decide) ?_
        exact tX9_bendsOf_33 hd C0 hA N ih _ _ _ _ _ H locs ls hf hP hD hS (lv_sub hl [0, 1, 2, 3] rfl)
      · have hf := mm_in hf c_4
        refine lv_iconst (v := 1) hx hb dX9_bendsOf_28 (by decide) ?_
        refine lv_goto (tgt := 33) hx hb dX9_bendsOf_29 (by decide) ?_
        exact tX9_bendsOf_33 hd C0 hA N ih _ _ _ _ _ H locs ls hf hP hD hS (lv_sub hl [0, 1, 2, 3] rfl)

def fX9_bendsOf (N : Nat) (x1 : Int32) (v_placeIn : List Int32) : Option (Int32) :=
    fX9_bendsOf_4 N N x1 (0 : Int32) (0 : Int32) v_placeIn

set_option maxHeartbeats 4000000 in
set_option maxRecDepth 100000 in
theorem ctX9_bendsOf {l : Launch} {D : va_G} {cI cL cS cH : ClassId} {a : Nat → Nat} {x1 : Int32} {v_keptMany : Int32} {v_done : Int32} {v_rowsOf : Int32} {v_columnsOf : Int32} {v_folded : Int32} {v_wronged : Int32} {v_tapeMany : Int32} {v_textMany : Int32} {v_base : Int32} {v_at : Int32} {v_ends : Int32} {v_fault : Int32} {v_opened : Int32} {v_bentMany : Int32} {v_bentWrong : Int32} {v_moreWorn : Int32} {v_planned : Int32} {v_allWrong : Int32} {v_allWorn : Int32} {v_z : Int32} {v_wishedField : Int32} {v_isFound : Bool} {v_bestWrong : Int32} {v_bestWorn : Int32} {v_bestMany : Int32} {v_soughtBy : Int32} {v_sought : Int32} {v_soughtAt : Int32} {v_foundMany : Int32} {v_foundOrder : Int32} {v_isKept : Bool} {v_imageRows : Int32} {v_imageColumns : Int32} {v_imageFolded : Int32} {v_imageWronged : Int32} {v_bodies : Int32} {v_ran : Int32} {v_ownKind : Int32} {v_ownNumber : Int32} {v_limit : List Int32} {v_changeWas : List Int32} {v_changeIs : List Int32} {v_shapeRows : List Int32} {v_shapeColumns : List Int32} {v_row : List Int32} {v_column : List Int32} {v_below : List Int32} {v_face : List Int32} {v_worn : List Int32} {v_lastBend : List Int32} {v_tape : List Int32} {v_text : List Int32} {v_names : List Int32} {v_bends : List Int32} {v_high : List Int32} {v_to : List Int32} {v_pileSize : List Int32} {v_planLine : List Int32} {v_planWay : List Int32} {v_way1 : List Int32} {v_bestWay : List Int32} {v_order1 : List Int32} {v_placeIn : List Int32} {v_bodyKind : List Int32} {v_trace : List Int32} {v_shelf : List Int32} {v_many : List Int32} {v_items : List Int64} {v_carried : List Int64} {r : Int32} {N d : Nat} (hd : 1 ≤ d) (hf : fX9_bendsOf N x1 v_placeIn = some r) : mm_Ct l yX9_bendsOf cX9_bendsOf 5 (some .int) d D (mm_T cI cL cS cH) [.ref (a 0), .int x1] (wd_X9 cI cL cS cH a v_keptMany v_done v_rowsOf v_columnsOf v_folded v_wronged v_tapeMany v_textMany v_base v_at v_ends v_fault v_opened v_bentMany v_bentWrong v_moreWorn v_planned v_allWrong v_allWorn v_z v_wishedField v_isFound v_bestWrong v_bestWorn v_bestMany v_soughtBy v_sought v_soughtAt v_foundMany v_foundOrder v_isKept v_imageRows v_imageColumns v_imageFolded v_imageWronged v_bodies v_ran v_ownKind v_ownNumber v_limit v_changeWas v_changeIs v_shapeRows v_shapeColumns v_row v_column v_below v_face v_worn v_lastBend v_tape v_text v_names v_bends v_high v_to v_pileSize v_planLine v_planWay v_way1 v_bestWay v_order1 v_placeIn v_bodyKind v_trace v_shelf v_many v_items v_carried) (wd_X9 cI cL cS cH a v_keptMany v_done v_rowsOf v_columnsOf v_folded v_wronged v_tapeMany v_textMany v_base v_at v_ends v_fault v_opened v_bentMany v_bentWrong v_moreWorn v_planned v_allWrong v_allWorn v_z v_wishedField v_isFound v_bestWrong v_bestWorn v_bestMany v_soughtBy v_sought v_soughtAt v_foundMany v_foundOrder v_isKept v_imageRows v_imageColumns v_imageFolded v_imageWronged v_bodies v_ran v_ownKind v_ownNumber v_limit v_changeWas v_changeIs v_shapeRows v_shapeColumns v_row v_column v_below v_face v_worn v_lastBend v_tape v_text v_names v_bends v_high v_to v_pileSize v_planLine v_planWay v_way1 v_bestWay v_order1 v_placeIn v_bodyKind v_trace v_shelf v_many v_items v_carried) (some (.int r)) := by
  refine mm_of (by decide) (Nat.le_of_ble_eq_true rfl) ?_
  intro p e s m args below meth c A H locs ls C0 hP hD hA hS hl
  have C0 : mm_Cx p s m args meth c RX9 cX9_bendsOf 5 (some .int) D (mm_T cI cL cS cH) A := C0
  obtain ⟨hx, hb, hml, hown, hts, hr, hlocks, hK, hSt⟩ := id C0
  have hl : lv_has ls 5 [(0, .ref (a 0)), (1, .int x1)] := hl
  unfold fX9_bendsOf at hf
  refine lv_iconst (v := 0) hx hb dX9_bendsOf_0 (by decide) ?_
  refine lv_istore_n (lv' := [(2, .int (0 : Int32)), (0, .ref (a 0)), (1, .int x1)]) hx hb dX9_bendsOf_1 rfl hl (by decide) rfl (fun ls hl => ?_)
  refine lv_iconst (v := 0) hx hb dX9_bendsOf_2 (by decide) ?_
  refine lv_istore_n (lv' := [(3, .int (0 : Int32)), (2, .int (0 : Int32)), (0, .ref (a 0)), (1, .int x1)]) hx hb dX9_bendsOf_3 rfl hl (by decide) rfl (fun ls hl => ?_)
  exact tX9_bendsOf_4 hd C0 hA N  N _ _ _ _ H locs ls hf hP hD hS (lv_sub hl [2, 3, 1, 0] rfl)

theorem nb_dX9_bends_0 : bls_w cX9_bends [(0, [27]), (1, [184, 1, 87]), (4, [153, 0, 12]), (7, [42]), (8, [27]), (9, [28]), (10, [182, 1, 90]), (13, [154, 0, 5]), (16, [2]), (17, [172]), (18, [42]), (19, [27])] := bls_of (by decide +kernel)
theorem dX9_bends_0 : decode cX9_bends 0 = .ok (.iload_n 1, 1) := op_27 nb_dX9_bends_0.1
set_option maxRecDepth 100000 in
theorem dX9_bends_1 : decode cX9_bends 1 = .ok (.invokestatic 343, 3) := (op_184 nb_dX9_bends_0.2.1).trans rfl
set_option maxRecDepth 100000 in
theorem dX9_bends_4 : decode cX9_bends 4 = .ok (.ifCond .eq 12, 3) := (op_153 nb_dX9_bends_0.2.2.1).trans rfl
theorem dX9_bends_7 : decode cX9_bends 7 = .ok (.aload_n 0, 1) := op_42 nb_dX9_bends_0.2.2.2.1
theorem dX9_bends_8 : decode cX9_bends 8 = .ok (.iload_n 1, 1) := op_27 nb_dX9_bends_0.2.2.2.2.1
theorem dX9_bends_9 : decode cX9_bends 9 = .ok (.iload_n 2, 1) := op_28 nb_dX9_bends_0.2.2.2.2.2.1
set_option maxRecDepth 100000 in
theorem dX9_bends_10 : decode cX9_bends 10 = .ok (.invokevirtual 346, 3) := (op_182 nb_dX9_bends_0.2.2.2.2.2.2.1).trans rfl
set_option maxRecDepth 100000 in
theorem dX9_bends_13 : decode cX9_bends 13 = .ok (.ifCond .ne 5, 3) := (op_154 nb_dX9_bends_0.2.2.2.2.2.2.2.1).trans rfl
theorem dX9_bends_16 : decode cX9_bends 16 = .ok (.iconst (-1), 1) := op_2 nb_dX9_bends_0.2.2.2.2.2.2.2.2.1
theorem dX9_bends_17 : decode cX9_bends 17 = .ok (.ireturn, 1) := op_172 nb_dX9_bends_0.2.2.2.2.2.2.2.2.2.1
theorem dX9_bends_18 : decode cX9_bends 18 = .ok (.aload_n 0, 1) := op_42 nb_dX9_bends_0.2.2.2.2.2.2.2.2.2.2.1
theorem dX9_bends_19 : decode cX9_bends 19 = .ok (.iload_n 1, 1) := op_27 nb_dX9_bends_0.2.2.2.2.2.2.2.2.2.2.2.1
theorem nb_dX9_bends_20 : bls_w cX9_bends [(20, [182, 1, 93]), (23, [155, 0, 8]), (26, [16, 251]), (28, [167, 0, 8]), (31, [42]), (32, [27]), (33, [182, 1, 96]), (36, [172])] := bls_of (by decide +kernel)
set_option maxRecDepth 100000 in
theorem dX9_bends_20 : decode cX9_bends 20 = .ok (.invokevirtual 349, 3) := (op_182 nb_dX9_bends_20.1).trans rfl
set_option maxRecDepth 100000 in
theorem dX9_bends_23 : decode cX9_bends 23 = .ok (.ifCond .lt 8, 3) := (op_155 nb_dX9_bends_20.2.1).trans rfl
set_option maxRecDepth 100000 in
theorem dX9_bends_26 : decode cX9_bends 26 = .ok (.bipush (-5), 2) := (op_16 nb_dX9_bends_20.2.2.1).trans rfl
set_option maxRecDepth 100000 in
theorem dX9_bends_28 : decode cX9_bends 28 = .ok (.goto 8, 3) := (op_167 nb_dX9_bends_20.2.2.2.1).trans rfl
theorem dX9_bends_31 : decode cX9_bends 31 = .ok (.aload_n 0, 1) := op_42 nb_dX9_bends_20.2.2.2.2.1
theorem dX9_bends_32 : decode cX9_bends 32 = .ok (.iload_n 1, 1) := op_27 nb_dX9_bends_20.2.2.2.2.2.1
set_option maxRecDepth 100000 in
theorem dX9_bends_33 : decode cX9_bends 33 = .ok (.invokevirtual 352, 3) := (op_182 nb_dX9_bends_20.2.2.2.2.2.2.1).trans rfl
theorem dX9_bends_36 : decode cX9_bends 36 = .ok (.ireturn, 1) := op_172 nb_dX9_bends_20.2.2.2.2.2.2.2.1
def fX9_bends (N : Nat) (x1 : Int32) (x2 : Int32) (v_order1 : List Int32) (v_placeIn : List Int32) : Option (Int32 × List Int32 × List Int32) :=
    mm_bd1 (fX9_isStrip N x1) (fun (r_1 : Bool) =>
    if r_1 = false then
    (some ((-1 : Int32), v_order1, v_placeIn))
    else (mm_bd3 (fX9_isOrder N x1 x2 v_order1 v_placeIn) (fun (r_4 : Bool) (w_5 : List Int32) (w_6 : List Int32) =>
    if r_4 = false then
    (some ((-1 : Int32), w_5, w_6))
    else (mm_bd1 (fX9_firstCross N x1 w_6) (fun (r_9 : Int32) =>
    if r_9 < 0 then
    (mm_bd1 (fX9_bendsOf N x1 w_6) (fun (r_12 : Int32) =>
    some (r_12, w_5, w_6)))
    else (some ((-5 : Int32), w_5, w_6)))))))

set_option maxHeartbeats 4000000 in
set_option maxRecDepth 100000 in
theorem ctX9_bends {l : Launch} {D : va_G} {cI cL cS cH : ClassId} {a : Nat → Nat} {x1 : Int32} {x2 : Int32} {v_keptMany : Int32} {v_done : Int32} {v_rowsOf : Int32} {v_columnsOf : Int32} {v_folded : Int32} {v_wronged : Int32} {v_tapeMany : Int32} {v_textMany : Int32} {v_base : Int32} {v_at : Int32} {v_ends : Int32} {v_fault : Int32} {v_opened : Int32} {v_bentMany : Int32} {v_bentWrong : Int32} {v_moreWorn : Int32} {v_planned : Int32} {v_allWrong : Int32} {v_allWorn : Int32} {v_z : Int32} {v_wishedField : Int32} {v_isFound : Bool} {v_bestWrong : Int32} {v_bestWorn : Int32} {v_bestMany : Int32} {v_soughtBy : Int32} {v_sought : Int32} {v_soughtAt : Int32} {v_foundMany : Int32} {v_foundOrder : Int32} {v_isKept : Bool} {v_imageRows : Int32} {v_imageColumns : Int32} {v_imageFolded : Int32} {v_imageWronged : Int32} {v_bodies : Int32} {v_ran : Int32} {v_ownKind : Int32} {v_ownNumber : Int32} {v_limit : List Int32} {v_changeWas : List Int32} {v_changeIs : List Int32} {v_shapeRows : List Int32} {v_shapeColumns : List Int32} {v_row : List Int32} {v_column : List Int32} {v_below : List Int32} {v_face : List Int32} {v_worn : List Int32} {v_lastBend : List Int32} {v_tape : List Int32} {v_text : List Int32} {v_names : List Int32} {v_bends : List Int32} {v_high : List Int32} {v_to : List Int32} {v_pileSize : List Int32} {v_planLine : List Int32} {v_planWay : List Int32} {v_way1 : List Int32} {v_bestWay : List Int32} {v_order1 : List Int32} {v_placeIn : List Int32} {v_bodyKind : List Int32} {v_trace : List Int32} {v_shelf : List Int32} {v_many : List Int32} {v_items : List Int64} {v_carried : List Int64} {r : Int32} {w_order1 : List Int32} {w_placeIn : List Int32} {N d : Nat} (hd : 4 ≤ d) (hf : fX9_bends N x1 x2 v_order1 v_placeIn = some (r, w_order1, w_placeIn)) : mm_Ct l yX9_bends cX9_bends 3 (some .int) d D (mm_T cI cL cS cH) [.ref (a 0), .int x1, .int x2] (wd_X9 cI cL cS cH a v_keptMany v_done v_rowsOf v_columnsOf v_folded v_wronged v_tapeMany v_textMany v_base v_at v_ends v_fault v_opened v_bentMany v_bentWrong v_moreWorn v_planned v_allWrong v_allWorn v_z v_wishedField v_isFound v_bestWrong v_bestWorn v_bestMany v_soughtBy v_sought v_soughtAt v_foundMany v_foundOrder v_isKept v_imageRows v_imageColumns v_imageFolded v_imageWronged v_bodies v_ran v_ownKind v_ownNumber v_limit v_changeWas v_changeIs v_shapeRows v_shapeColumns v_row v_column v_below v_face v_worn v_lastBend v_tape v_text v_names v_bends v_high v_to v_pileSize v_planLine v_planWay v_way1 v_bestWay v_order1 v_placeIn v_bodyKind v_trace v_shelf v_many v_items v_carried) (wd_X9 cI cL cS cH a v_keptMany v_done v_rowsOf v_columnsOf v_folded v_wronged v_tapeMany v_textMany v_base v_at v_ends v_fault v_opened v_bentMany v_bentWrong v_moreWorn v_planned v_allWrong v_allWorn v_z v_wishedField v_isFound v_bestWrong v_bestWorn v_bestMany v_soughtBy v_sought v_soughtAt v_foundMany v_foundOrder v_isKept v_imageRows v_imageColumns v_imageFolded v_imageWronged v_bodies v_ran v_ownKind v_ownNumber v_limit v_changeWas v_changeIs v_shapeRows v_shapeColumns v_row v_column v_below v_face v_worn v_lastBend v_tape v_text v_names v_bends v_high v_to v_pileSize v_planLine v_planWay v_way1 v_bestWay w_order1 w_placeIn v_bodyKind v_trace v_shelf v_many v_items v_carried) (some (.int r)) := by
  refine mm_of (by decide) (Nat.le_of_ble_eq_true rfl) ?_
  intro p e s m args below meth c A H locs ls C0 hP hD hA hS hl
  have C0 : mm_Cx p s m args meth c RX9 cX9_bends 3 (some .int) D (mm_T cI cL cS cH) A := C0
  obtain ⟨hx, hb, hml, hown, hts, hr, hlocks, hK, hSt⟩ := id C0
  have hl : lv_has ls 3 [(0, .ref (a 0)), (1, .int x1), (2, .int x2)] := hl
  unfold fX9_bends at hf
  refine lv_iload_n hx hb dX9_bends_0 rfl (lv_at hl 1 rfl) ?_
  obtain ⟨r_1, hc_2, hf⟩ := mm_bd1s hf
  refine mm_callS0 (rest := []) C0 lk_X9_343 (ctX9_isStrip (d := d - 1) (by omega) hc_2) (by omega) rfl hl.1 rfl (mm_cat rfl) dX9_bends_1 hP hD hA hS (fun H locs hP hS => ?_)
  refine W.eq (g2 := F0 m 4 ls [.int (mm_b r_1)]) rfl ?_
  refine lv_if_eq (tgt := 16) hx hb dX9_bends_4 (by decide) (fun c_3 => ?_) (fun c_3 => ?_)
  · have hf := mm_ip hf (mm_b0 c_3)
    refine lv_iconst (v := -1) hx hb dX9_bends_16 (by decide) ?_
    apply mm_sub3 hf
    exact mm_iret C0 hP hD hS dX9_bends_17
  · have hf := mm_in hf (mm_b1 c_3)
    refine lv_aload_n hx hb dX9_bends_7 rfl (lv_at hl 0 rfl) ?_
    refine lv_iload_n hx hb dX9_bends_8 rfl (lv_at hl 1 rfl) ?_
    refine lv_iload_n hx hb dX9_bends_9 rfl (lv_at hl 2 rfl) ?_
    obtain ⟨r_4, w_5, w_6, hc_7, hf⟩ := mm_bd3s hf
    refine mm_callVF (q0 := 0) (ci := 9) (rest := []) C0 lk_X9_346 (ctX9_isOrder (a := a) (d := d - 1) (by omega) hc_7) (by omega) rfl hl.1 rfl (mm_cat rfl) dX9_bends_10 hP hD hA hS rfl rfl (fun H locs hP hD hS => ?_)
    refine W.eq (g2 := F0 m 13 ls [.int (mm_b r_4)]) rfl ?_
    refine lv_if_ne (tgt := 18) hx hb dX9_bends_13 (by decide) (fun c_8 => ?_) (fun c_8 => ?_)
    · have hf := mm_in hf (mm_b1 c_8)
      refine lv_aload_n hx hb dX9_bends_18 rfl (lv_at hl 0 rfl) ?_
      refine lv_iload_n hx hb dX9_bends_19 rfl (lv_at hl 1 rfl) ?_
      obtain ⟨r_9, hc_10, hf⟩ := mm_bd1s hf
      refine mm_callVF (q0 := 0) (ci := 9) (rest := []) C0 lk_X9_349 (ctX9_firstCross (a := a) (d := d - 1) (by omega) hc_10) (by omega) rfl hl.1 rfl (mm_cat rfl) dX9_bends_20 hP hD hA hS rfl rfl (fun H locs hP hD hS => ?_)
      refine W.eq (g2 := F0 m 23 ls [.int r_9]) rfl ?_
      refine lv_if_lt (tgt := 31) hx hb dX9_bends_23 (by decide) (fun c_11 => ?_) (fun c_11 => ?_)
      · have hf := mm_ip hf c_11
        refine lv_aload_n hx hb dX9_bends_31 rfl (lv_at hl 0 rfl) ?_
        refine lv_iload_n hx hb dX9_bends_32 rfl (lv_at hl 1 rfl) ?_
        obtain ⟨r_12, hc_13, hf⟩ := mm_bd1s hf
        refine mm_callVF (q0 := 0) (ci := 9) (rest := []) C0 lk_X9_352 (ctX9_bendsOf (a := a) (d := d - 1) (by omega) hc_13) (by omega) rfl hl.1 rfl (mm_cat rfl) dX9_bends_33 hP hD hA hS rfl rfl (fun H locs hP hD hS => ?_)
        refine W.eq (g2 := F0 m 36 ls [.int r_12]) rfl ?_
        apply mm_sub3 hf
        exact mm_iret C0 hP hD hS dX9_bends_36
      · have hf := mm_in hf c_11
        refine lv_bipush (v := -5) hx hb dX9_bends_26 (by decide) ?_
        refine lv_goto (tgt := 36) hx hb dX9_bends_28 (by decide) ?_
        apply mm_sub3 hf
        exact mm_iret C0 hP hD hS dX9_bends_36
    · have hf := mm_ip hf (mm_b0 c_8)
      refine lv_iconst (v := -1) hx hb dX9_bends_16 (by decide) ?_
      apply mm_sub3 hf
      exact mm_iret C0 hP hD hS dX9_bends_17

theorem nb_dX9_looksAt_0 : bls_w cX9_looksAt [(0, [42]), (1, [27]), (2, [182, 1, 93]), (5, [155, 0, 4]), (8, [177]), (9, [42]), (10, [180, 1, 99]), (13, [153, 0, 46]), (16, [42]), (17, [180, 1, 99]), (20, [4]), (21, [160, 0, 15])] := bls_of (by decide +kernel)
theorem dX9_looksAt_0 : decode cX9_looksAt 0 = .ok (.aload_n 0, 1) := op_42 nb_dX9_looksAt_0.1
theorem dX9_looksAt_1 : decode cX9_looksAt 1 = .ok (.iload_n 1, 1) := op_27 nb_dX9_looksAt_0.2.1
set_option maxRecDepth 100000 in
theorem dX9_looksAt_2 : decode cX9_looksAt 2 = .ok (.invokevirtual 349, 3) := (op_182 nb_dX9_looksAt_0.2.2.1).trans rfl
set_option maxRecDepth 100000 in
theorem dX9_looksAt_5 : decode cX9_looksAt 5 = .ok (.ifCond .lt 4, 3) := (op_155 nb_dX9_looksAt_0.2.2.2.1).trans rfl
theorem dX9_looksAt_8 : decode cX9_looksAt 8 = .ok (.return_, 1) := op_177 nb_dX9_looksAt_0.2.2.2.2.1
theorem dX9_looksAt_9 : decode cX9_looksAt 9 = .ok (.aload_n 0, 1) := op_42 nb_dX9_looksAt_0.2.2.2.2.2.1
set_option maxRecDepth 100000 in
theorem dX9_looksAt_10 : decode cX9_looksAt 10 = .ok (.getfield 355, 3) := (op_180 nb_dX9_looksAt_0.2.2.2.2.2.2.1).trans rfl
set_option maxRecDepth 100000 in
theorem dX9_looksAt_13 : decode cX9_looksAt 13 = .ok (.ifCond .eq 46, 3) := (op_153 nb_dX9_looksAt_0.2.2.2.2.2.2.2.1).trans rfl
theorem dX9_looksAt_16 : decode cX9_looksAt 16 = .ok (.aload_n 0, 1) := op_42 nb_dX9_looksAt_0.2.2.2.2.2.2.2.2.1
set_option maxRecDepth 100000 in
theorem dX9_looksAt_17 : decode cX9_looksAt 17 = .ok (.getfield 355, 3) := (op_180 nb_dX9_looksAt_0.2.2.2.2.2.2.2.2.2.1).trans rfl
theorem dX9_looksAt_20 : decode cX9_looksAt 20 = .ok (.iconst 1, 1) := op_4 nb_dX9_looksAt_0.2.2.2.2.2.2.2.2.2.2.1
set_option maxRecDepth 100000 in
theorem dX9_looksAt_21 : decode cX9_looksAt 21 = .ok (.if_icmp .ne 15, 3) := (op_160 nb_dX9_looksAt_0.2.2.2.2.2.2.2.2.2.2.2.1).trans rfl
theorem nb_dX9_looksAt_24 : bls_w cX9_looksAt [(24, [42]), (25, [27]), (26, [182, 1, 96]), (29, [42]), (30, [180, 1, 102]), (33, [159, 0, 26]), (36, [42]), (37, [180, 1, 99]), (40, [5]), (41, [160, 0, 22]), (44, [42]), (45, [180, 0, 76])] := bls_of (by decide +kernel)
theorem dX9_looksAt_24 : decode cX9_looksAt 24 = .ok (.aload_n 0, 1) := op_42 nb_dX9_looksAt_24.1
theorem dX9_looksAt_25 : decode cX9_looksAt 25 = .ok (.iload_n 1, 1) := op_27 nb_dX9_looksAt_24.2.1
set_option maxRecDepth 100000 in
theorem dX9_looksAt_26 : decode cX9_looksAt 26 = .ok (.invokevirtual 352, 3) := (op_182 nb_dX9_looksAt_24.2.2.1).trans rfl
theorem dX9_looksAt_29 : decode cX9_looksAt 29 = .ok (.aload_n 0, 1) := op_42 nb_dX9_looksAt_24.2.2.2.1
set_option maxRecDepth 100000 in
theorem dX9_looksAt_30 : decode cX9_looksAt 30 = .ok (.getfield 358, 3) := (op_180 nb_dX9_looksAt_24.2.2.2.2.1).trans rfl
set_option maxRecDepth 100000 in
theorem dX9_looksAt_33 : decode cX9_looksAt 33 = .ok (.if_icmp .eq 26, 3) := (op_159 nb_dX9_looksAt_24.2.2.2.2.2.1).trans rfl
theorem dX9_looksAt_36 : decode cX9_looksAt 36 = .ok (.aload_n 0, 1) := op_42 nb_dX9_looksAt_24.2.2.2.2.2.2.1
set_option maxRecDepth 100000 in
theorem dX9_looksAt_37 : decode cX9_looksAt 37 = .ok (.getfield 355, 3) := (op_180 nb_dX9_looksAt_24.2.2.2.2.2.2.2.1).trans rfl
theorem dX9_looksAt_40 : decode cX9_looksAt 40 = .ok (.iconst 2, 1) := op_5 nb_dX9_looksAt_24.2.2.2.2.2.2.2.2.1
set_option maxRecDepth 100000 in
theorem dX9_looksAt_41 : decode cX9_looksAt 41 = .ok (.if_icmp .ne 22, 3) := (op_160 nb_dX9_looksAt_24.2.2.2.2.2.2.2.2.2.1).trans rfl
theorem dX9_looksAt_44 : decode cX9_looksAt 44 = .ok (.aload_n 0, 1) := op_42 nb_dX9_looksAt_24.2.2.2.2.2.2.2.2.2.2.1
set_option maxRecDepth 100000 in
theorem dX9_looksAt_45 : decode cX9_looksAt 45 = .ok (.getfield 76, 3) := (op_180 nb_dX9_looksAt_24.2.2.2.2.2.2.2.2.2.2.2.1).trans rfl
theorem nb_dX9_looksAt_48 : bls_w cX9_looksAt [(48, [27]), (49, [4]), (50, [100]), (51, [46]), (52, [42]), (53, [180, 1, 102]), (56, [160, 0, 7]), (59, [4]), (60, [167, 0, 4]), (63, [3]), (64, [62]), (65, [29])] := bls_of (by decide +kernel)
theorem dX9_looksAt_48 : decode cX9_looksAt 48 = .ok (.iload_n 1, 1) := op_27 nb_dX9_looksAt_48.1
theorem dX9_looksAt_49 : decode cX9_looksAt 49 = .ok (.iconst 1, 1) := op_4 nb_dX9_looksAt_48.2.1
theorem dX9_looksAt_50 : decode cX9_looksAt 50 = .ok (.isub, 1) := op_100 nb_dX9_looksAt_48.2.2.1
theorem dX9_looksAt_51 : decode cX9_looksAt 51 = .ok (.iaload, 1) := op_46 nb_dX9_looksAt_48.2.2.2.1
theorem dX9_looksAt_52 : decode cX9_looksAt 52 = .ok (.aload_n 0, 1) := op_42 nb_dX9_looksAt_48.2.2.2.2.1
set_option maxRecDepth 100000 in
theorem dX9_looksAt_53 : decode cX9_looksAt 53 = .ok (.getfield 358, 3) := (op_180 nb_dX9_looksAt_48.2.2.2.2.2.1).trans rfl
set_option maxRecDepth 100000 in
theorem dX9_looksAt_56 : decode cX9_looksAt 56 = .ok (.if_icmp .ne 7, 3) := (op_160 nb_dX9_looksAt_48.2.2.2.2.2.2.1).trans rfl
theorem dX9_looksAt_59 : decode cX9_looksAt 59 = .ok (.iconst 1, 1) := op_4 nb_dX9_looksAt_48.2.2.2.2.2.2.2.1
set_option maxRecDepth 100000 in
theorem dX9_looksAt_60 : decode cX9_looksAt 60 = .ok (.goto 4, 3) := (op_167 nb_dX9_looksAt_48.2.2.2.2.2.2.2.2.1).trans rfl
theorem dX9_looksAt_63 : decode cX9_looksAt 63 = .ok (.iconst 0, 1) := op_3 nb_dX9_looksAt_48.2.2.2.2.2.2.2.2.2.1
theorem dX9_looksAt_64 : decode cX9_looksAt 64 = .ok (.istore_n 3, 1) := op_62 nb_dX9_looksAt_48.2.2.2.2.2.2.2.2.2.2.1
theorem dX9_looksAt_65 : decode cX9_looksAt 65 = .ok (.iload_n 3, 1) := op_29 nb_dX9_looksAt_48.2.2.2.2.2.2.2.2.2.2.2.1
theorem nb_dX9_looksAt_66 : bls_w cX9_looksAt [(66, [154, 0, 4]), (69, [177]), (70, [42]), (71, [42]), (72, [180, 1, 105]), (75, [42]), (76, [180, 1, 108]), (79, [160, 0, 7]), (82, [28]), (83, [167, 0, 7]), (86, [42]), (87, [180, 1, 111])] := bls_of (by decide +kernel)
set_option maxRecDepth 100000 in
theorem dX9_looksAt_66 : decode cX9_looksAt 66 = .ok (.ifCond .ne 4, 3) := (op_154 nb_dX9_looksAt_66.1).trans rfl
theorem dX9_looksAt_69 : decode cX9_looksAt 69 = .ok (.return_, 1) := op_177 nb_dX9_looksAt_66.2.1
theorem dX9_looksAt_70 : decode cX9_looksAt 70 = .ok (.aload_n 0, 1) := op_42 nb_dX9_looksAt_66.2.2.1
theorem dX9_looksAt_71 : decode cX9_looksAt 71 = .ok (.aload_n 0, 1) := op_42 nb_dX9_looksAt_66.2.2.2.1
set_option maxRecDepth 100000 in
theorem dX9_looksAt_72 : decode cX9_looksAt 72 = .ok (.getfield 361, 3) := (op_180 nb_dX9_looksAt_66.2.2.2.2.1).trans rfl
theorem dX9_looksAt_75 : decode cX9_looksAt 75 = .ok (.aload_n 0, 1) := op_42 nb_dX9_looksAt_66.2.2.2.2.2.1
set_option maxRecDepth 100000 in
theorem dX9_looksAt_76 : decode cX9_looksAt 76 = .ok (.getfield 364, 3) := (op_180 nb_dX9_looksAt_66.2.2.2.2.2.2.1).trans rfl
set_option maxRecDepth 100000 in
theorem dX9_looksAt_79 : decode cX9_looksAt 79 = .ok (.if_icmp .ne 7, 3) := (op_160 nb_dX9_looksAt_66.2.2.2.2.2.2.2.1).trans rfl
theorem dX9_looksAt_82 : decode cX9_looksAt 82 = .ok (.iload_n 2, 1) := op_28 nb_dX9_looksAt_66.2.2.2.2.2.2.2.2.1
set_option maxRecDepth 100000 in
theorem dX9_looksAt_83 : decode cX9_looksAt 83 = .ok (.goto 7, 3) := (op_167 nb_dX9_looksAt_66.2.2.2.2.2.2.2.2.2.1).trans rfl
theorem dX9_looksAt_86 : decode cX9_looksAt 86 = .ok (.aload_n 0, 1) := op_42 nb_dX9_looksAt_66.2.2.2.2.2.2.2.2.2.2.1
set_option maxRecDepth 100000 in
theorem dX9_looksAt_87 : decode cX9_looksAt 87 = .ok (.getfield 367, 3) := (op_180 nb_dX9_looksAt_66.2.2.2.2.2.2.2.2.2.2.2.1).trans rfl
theorem nb_dX9_looksAt_90 : bls_w cX9_looksAt [(90, [181, 1, 111]), (93, [42]), (94, [89]), (95, [180, 1, 105]), (98, [4]), (99, [96]), (100, [181, 1, 105]), (103, [177])] := bls_of (by decide +kernel)
set_option maxRecDepth 100000 in
theorem dX9_looksAt_90 : decode cX9_looksAt 90 = .ok (.putfield 367, 3) := (op_181 nb_dX9_looksAt_90.1).trans rfl
theorem dX9_looksAt_93 : decode cX9_looksAt 93 = .ok (.aload_n 0, 1) := op_42 nb_dX9_looksAt_90.2.1
theorem dX9_looksAt_94 : decode cX9_looksAt 94 = .ok (.dup, 1) := op_89 nb_dX9_looksAt_90.2.2.1
set_option maxRecDepth 100000 in
theorem dX9_looksAt_95 : decode cX9_looksAt 95 = .ok (.getfield 361, 3) := (op_180 nb_dX9_looksAt_90.2.2.2.1).trans rfl
theorem dX9_looksAt_98 : decode cX9_looksAt 98 = .ok (.iconst 1, 1) := op_4 nb_dX9_looksAt_90.2.2.2.2.1
theorem dX9_looksAt_99 : decode cX9_looksAt 99 = .ok (.iadd, 1) := op_96 nb_dX9_looksAt_90.2.2.2.2.2.1
set_option maxRecDepth 100000 in
theorem dX9_looksAt_100 : decode cX9_looksAt 100 = .ok (.putfield 361, 3) := (op_181 nb_dX9_looksAt_90.2.2.2.2.2.2.1).trans rfl
theorem dX9_looksAt_103 : decode cX9_looksAt 103 = .ok (.return_, 1) := op_177 nb_dX9_looksAt_90.2.2.2.2.2.2.2.1
def fX9_looksAt_90 (N : Nat)  (s0 : Int32) (v_soughtBy : Int32) (v_sought : Int32) (v_soughtAt : Int32) (v_foundMany : Int32) (v_foundOrder : Int32) (v_order1 : List Int32) (v_placeIn : List Int32) : Option (Int32 × Int32) :=
    mm_nm ((v_foundMany + (1 : Int32))) (fun (y_14 : Int32) =>
    some (y_14, s0))

set_option maxHeartbeats 4000000 in
set_option maxRecDepth 100000 in
theorem tX9_looksAt_90 {p : Program} {l : Launch} {e : Env} {s : State} {m : MethodId} {args : Array Value} {below : List Frame} {meth : Method} {c : Code} {D : va_G} {cI cL cS cH : ClassId} {A : Nat → Prop} {d : Nat} {a : Nat → Nat} (hd : 4 ≤ d) (C0 : mm_Cx p s m args meth c RX9 cX9_looksAt 4 none D (mm_T cI cL cS cH) A) (hA : ∀ q, s.heap.size ≤ q → A q) {v_keptMany : Int32} {v_done : Int32} {v_rowsOf : Int32} {v_columnsOf : Int32} {v_folded : Int32} {v_wronged : Int32} {v_tapeMany : Int32} {v_textMany : Int32} {v_base : Int32} {v_at : Int32} {v_ends : Int32} {v_fault : Int32} {v_opened : Int32} {v_bentMany : Int32} {v_bentWrong : Int32} {v_moreWorn : Int32} {v_planned : Int32} {v_allWrong : Int32} {v_allWorn : Int32} {v_z : Int32} {v_wishedField : Int32} {v_isFound : Bool} {v_bestWrong : Int32} {v_bestWorn : Int32} {v_bestMany : Int32} {v_isKept : Bool} {v_imageRows : Int32} {v_imageColumns : Int32} {v_imageFolded : Int32} {v_imageWronged : Int32} {v_bodies : Int32} {v_ran : Int32} {v_ownKind : Int32} {v_ownNumber : Int32} {v_limit : List Int32} {v_changeWas : List Int32} {v_changeIs : List Int32} {v_shapeRows : List Int32} {v_shapeColumns : List Int32} {v_row : List Int32} {v_column : List Int32} {v_below : List Int32} {v_face : List Int32} {v_worn : List Int32} {v_lastBend : List Int32} {v_tape : List Int32} {v_text : List Int32} {v_names : List Int32} {v_bends : List Int32} {v_high : List Int32} {v_to : List Int32} {v_pileSize : List Int32} {v_planLine : List Int32} {v_planWay : List Int32} {v_way1 : List Int32} {v_bestWay : List Int32} {v_bodyKind : List Int32} {v_trace : List Int32} {v_shelf : List Int32} {v_many : List Int32} {v_items : List Int64} {v_carried : List Int64} {w_foundMany : Int32} {w_foundOrder : Int32} (N : Nat)  : ∀ (s0 : Int32) (v_soughtBy : Int32) (v_sought : Int32) (v_soughtAt : Int32) (v_foundMany : Int32) (v_foundOrder : Int32) (v_order1 : List Int32) (v_placeIn : List Int32) (H : Heap) (locs : List Loc) (ls : Array Slot), fX9_looksAt_90 N s0 v_soughtBy v_sought v_soughtAt v_foundMany v_foundOrder v_order1 v_placeIn = some (w_foundMany, w_foundOrder) → va_P D mm_cl (wd_X9 cI cL cS cH a v_keptMany v_done v_rowsOf v_columnsOf v_folded v_wronged v_tapeMany v_textMany v_base v_at v_ends v_fault v_opened v_bentMany v_bentWrong v_moreWorn v_planned v_allWrong v_allWorn v_z v_wishedField v_isFound v_bestWrong v_bestWorn v_bestMany v_soughtBy v_sought v_soughtAt v_foundMany v_foundOrder v_isKept v_imageRows v_imageColumns v_imageFolded v_imageWronged v_bodies v_ran v_ownKind v_ownNumber v_limit v_changeWas v_changeIs v_shapeRows v_shapeColumns v_row v_column v_below v_face v_worn v_lastBend v_tape v_text v_names v_bends v_high v_to v_pileSize v_planLine v_planWay v_way1 v_bestWay v_order1 v_placeIn v_bodyKind v_trace v_shelf v_many v_items v_carried) H → va_D A (wd_X9 cI cL cS cH a v_keptMany v_done v_rowsOf v_columnsOf v_folded v_wronged v_tapeMany v_textMany v_base v_at v_ends v_fault v_opened v_bentMany v_bentWrong v_moreWorn v_planned v_allWrong v_allWorn v_z v_wishedField v_isFound v_bestWrong v_bestWorn v_bestMany v_soughtBy v_sought v_soughtAt v_foundMany v_foundOrder v_isKept v_imageRows v_imageColumns v_imageFolded v_imageWronged v_bodies v_ran v_ownKind v_ownNumber v_limit v_changeWas v_changeIs v_shapeRows v_shapeColumns v_row v_column v_below v_face v_worn v_lastBend v_tape v_text v_names v_bends v_high v_to v_pileSize v_planLine v_planWay v_way1 v_bestWay v_order1 v_placeIn v_bodyKind v_trace v_shelf v_many v_items v_carried) → va_S A s.heap H locs → lv_has ls 4 [(0, .ref (a 0))] → W p l e (mm_rr d) s m args below meth c H locs 0 0 (mm_Z below D A (wd_X9 cI cL cS cH a v_keptMany v_done v_rowsOf v_columnsOf v_folded v_wronged v_tapeMany v_textMany v_base v_at v_ends v_fault v_opened v_bentMany v_bentWrong v_moreWorn v_planned v_allWrong v_allWorn v_z v_wishedField v_isFound v_bestWrong v_bestWorn v_bestMany v_soughtBy v_sought v_soughtAt w_foundMany w_foundOrder v_isKept v_imageRows v_imageColumns v_imageFolded v_imageWronged v_bodies v_ran v_ownKind v_ownNumber v_limit v_changeWas v_changeIs v_shapeRows v_shapeColumns v_row v_column v_below v_face v_worn v_lastBend v_tape v_text v_names v_bends v_high v_to v_pileSize v_planLine v_planWay v_way1 v_bestWay v_order1 v_placeIn v_bodyKind v_trace v_shelf v_many v_items v_carried) none args s) (F0 m 90 ls [.int s0, .ref (a 0)]) := by
  obtain ⟨hx, hb, hml, hown, hts, hr, hlocks, hK, hSt⟩ := id C0
  intro s0 v_soughtBy v_sought v_soughtAt v_foundMany v_foundOrder v_order1 v_placeIn H locs ls hf hP hD hS hl
  unfold fX9_looksAt_90 at hf
  refine mm_put C0 hP hD hS iw_X9 tyX9 tyX9_ok nmX9 0 rfl rfl 53 (by decide) fl_X9_367 rfl rfl rfl (Nat.le_of_ble_eq_true rfl) dX9_looksAt_90 (w2 := (wd_X9 cI cL cS cH a v_keptMany v_done v_rowsOf v_columnsOf v_folded v_wronged v_tapeMany v_textMany v_base v_at v_ends v_fault v_opened v_bentMany v_bentWrong v_moreWorn v_planned v_allWrong v_allWorn v_z v_wishedField v_isFound v_bestWrong v_bestWorn v_bestMany v_soughtBy v_sought v_soughtAt v_foundMany s0 v_isKept v_imageRows v_imageColumns v_imageFolded v_imageWronged v_bodies v_ran v_ownKind v_ownNumber v_limit v_changeWas v_changeIs v_shapeRows v_shapeColumns v_row v_column v_below v_face v_worn v_lastBend v_tape v_text v_names v_bends v_high v_to v_pileSize v_planLine v_planWay v_way1 v_bestWay v_order1 v_placeIn v_bodyKind v_trace v_shelf v_many v_items v_carried)) rfl (fun H locs hP hD hS => ?_)
  refine lv_aload_n hx hb dX9_looksAt_93 rfl (lv_at hl 0 rfl) ?_
  refine lv_dup hx hb dX9_looksAt_94 rfl ?_
  refine mm_get C0 hP iw_X9 0 rfl rfl 52 (by decide) fl_X9_361 rfl dX9_looksAt_95 ?_
  refine lv_iconst (v := 1) hx hb dX9_looksAt_98 (by decide) ?_
  refine lv_iadd hx hb dX9_looksAt_99 ?_
  refine lv_topi (fun y_14 ey_14 => ?_)
  have hf := mm_nms hf ey_14
  refine mm_put C0 hP hD hS iw_X9 tyX9 tyX9_ok nmX9 0 rfl rfl 52 (by decide) fl_X9_361 rfl rfl rfl (Nat.le_of_ble_eq_true rfl) dX9_looksAt_100 (w2 := (wd_X9 cI cL cS cH a v_keptMany v_done v_rowsOf v_columnsOf v_folded v_wronged v_tapeMany v_textMany v_base v_at v_ends v_fault v_opened v_bentMany v_bentWrong v_moreWorn v_planned v_allWrong v_allWorn v_z v_wishedField v_isFound v_bestWrong v_bestWorn v_bestMany v_soughtBy v_sought v_soughtAt y_14 s0 v_isKept v_imageRows v_imageColumns v_imageFolded v_imageWronged v_bodies v_ran v_ownKind v_ownNumber v_limit v_changeWas v_changeIs v_shapeRows v_shapeColumns v_row v_column v_below v_face v_worn v_lastBend v_tape v_text v_names v_bends v_high v_to v_pileSize v_planLine v_planWay v_way1 v_bestWay v_order1 v_placeIn v_bodyKind v_trace v_shelf v_many v_items v_carried)) rfl (fun H locs hP hD hS => ?_)
  apply mm_sub2 hf
  exact mm_vret C0 hP hD hS dX9_looksAt_103

def fX9_looksAt_64 (N : Nat)  (x2 : Int32) (s0 : Int32) (v_soughtBy : Int32) (v_sought : Int32) (v_soughtAt : Int32) (v_foundMany : Int32) (v_foundOrder : Int32) (v_order1 : List Int32) (v_placeIn : List Int32) : Option (Int32 × Int32) :=
    if s0 = 0 then
    (some (v_foundMany, v_foundOrder))
    else (if v_foundMany = v_soughtAt then
    (fX9_looksAt_90 N x2 v_soughtBy v_sought v_soughtAt v_foundMany v_foundOrder v_order1 v_placeIn)
    else (fX9_looksAt_90 N v_foundOrder v_soughtBy v_sought v_soughtAt v_foundMany v_foundOrder v_order1 v_placeIn))

set_option maxHeartbeats 4000000 in
set_option maxRecDepth 100000 in
theorem tX9_looksAt_64 {p : Program} {l : Launch} {e : Env} {s : State} {m : MethodId} {args : Array Value} {below : List Frame} {meth : Method} {c : Code} {D : va_G} {cI cL cS cH : ClassId} {A : Nat → Prop} {d : Nat} {a : Nat → Nat} (hd : 4 ≤ d) (C0 : mm_Cx p s m args meth c RX9 cX9_looksAt 4 none D (mm_T cI cL cS cH) A) (hA : ∀ q, s.heap.size ≤ q → A q) {v_keptMany : Int32} {v_done : Int32} {v_rowsOf : Int32} {v_columnsOf : Int32} {v_folded : Int32} {v_wronged : Int32} {v_tapeMany : Int32} {v_textMany : Int32} {v_base : Int32} {v_at : Int32} {v_ends : Int32} {v_fault : Int32} {v_opened : Int32} {v_bentMany : Int32} {v_bentWrong : Int32} {v_moreWorn : Int32} {v_planned : Int32} {v_allWrong : Int32} {v_allWorn : Int32} {v_z : Int32} {v_wishedField : Int32} {v_isFound : Bool} {v_bestWrong : Int32} {v_bestWorn : Int32} {v_bestMany : Int32} {v_isKept : Bool} {v_imageRows : Int32} {v_imageColumns : Int32} {v_imageFolded : Int32} {v_imageWronged : Int32} {v_bodies : Int32} {v_ran : Int32} {v_ownKind : Int32} {v_ownNumber : Int32} {v_limit : List Int32} {v_changeWas : List Int32} {v_changeIs : List Int32} {v_shapeRows : List Int32} {v_shapeColumns : List Int32} {v_row : List Int32} {v_column : List Int32} {v_below : List Int32} {v_face : List Int32} {v_worn : List Int32} {v_lastBend : List Int32} {v_tape : List Int32} {v_text : List Int32} {v_names : List Int32} {v_bends : List Int32} {v_high : List Int32} {v_to : List Int32} {v_pileSize : List Int32} {v_planLine : List Int32} {v_planWay : List Int32} {v_way1 : List Int32} {v_bestWay : List Int32} {v_bodyKind : List Int32} {v_trace : List Int32} {v_shelf : List Int32} {v_many : List Int32} {v_items : List Int64} {v_carried : List Int64} {w_foundMany : Int32} {w_foundOrder : Int32} (N : Nat)  : ∀ (x2 : Int32) (s0 : Int32) (v_soughtBy : Int32) (v_sought : Int32) (v_soughtAt : Int32) (v_foundMany : Int32) (v_foundOrder : Int32) (v_order1 : List Int32) (v_placeIn : List Int32) (H : Heap) (locs : List Loc) (ls : Array Slot), fX9_looksAt_64 N x2 s0 v_soughtBy v_sought v_soughtAt v_foundMany v_foundOrder v_order1 v_placeIn = some (w_foundMany, w_foundOrder) → va_P D mm_cl (wd_X9 cI cL cS cH a v_keptMany v_done v_rowsOf v_columnsOf v_folded v_wronged v_tapeMany v_textMany v_base v_at v_ends v_fault v_opened v_bentMany v_bentWrong v_moreWorn v_planned v_allWrong v_allWorn v_z v_wishedField v_isFound v_bestWrong v_bestWorn v_bestMany v_soughtBy v_sought v_soughtAt v_foundMany v_foundOrder v_isKept v_imageRows v_imageColumns v_imageFolded v_imageWronged v_bodies v_ran v_ownKind v_ownNumber v_limit v_changeWas v_changeIs v_shapeRows v_shapeColumns v_row v_column v_below v_face v_worn v_lastBend v_tape v_text v_names v_bends v_high v_to v_pileSize v_planLine v_planWay v_way1 v_bestWay v_order1 v_placeIn v_bodyKind v_trace v_shelf v_many v_items v_carried) H → va_D A (wd_X9 cI cL cS cH a v_keptMany v_done v_rowsOf v_columnsOf v_folded v_wronged v_tapeMany v_textMany v_base v_at v_ends v_fault v_opened v_bentMany v_bentWrong v_moreWorn v_planned v_allWrong v_allWorn v_z v_wishedField v_isFound v_bestWrong v_bestWorn v_bestMany v_soughtBy v_sought v_soughtAt v_foundMany v_foundOrder v_isKept v_imageRows v_imageColumns v_imageFolded v_imageWronged v_bodies v_ran v_ownKind v_ownNumber v_limit v_changeWas v_changeIs v_shapeRows v_shapeColumns v_row v_column v_below v_face v_worn v_lastBend v_tape v_text v_names v_bends v_high v_to v_pileSize v_planLine v_planWay v_way1 v_bestWay v_order1 v_placeIn v_bodyKind v_trace v_shelf v_many v_items v_carried) → va_S A s.heap H locs → lv_has ls 4 [(0, .ref (a 0)), (2, .int x2)] → W p l e (mm_rr d) s m args below meth c H locs 0 0 (mm_Z below D A (wd_X9 cI cL cS cH a v_keptMany v_done v_rowsOf v_columnsOf v_folded v_wronged v_tapeMany v_textMany v_base v_at v_ends v_fault v_opened v_bentMany v_bentWrong v_moreWorn v_planned v_allWrong v_allWorn v_z v_wishedField v_isFound v_bestWrong v_bestWorn v_bestMany v_soughtBy v_sought v_soughtAt w_foundMany w_foundOrder v_isKept v_imageRows v_imageColumns v_imageFolded v_imageWronged v_bodies v_ran v_ownKind v_ownNumber v_limit v_changeWas v_changeIs v_shapeRows v_shapeColumns v_row v_column v_below v_face v_worn v_lastBend v_tape v_text v_names v_bends v_high v_to v_pileSize v_planLine v_planWay v_way1 v_bestWay v_order1 v_placeIn v_bodyKind v_trace v_shelf v_many v_items v_carried) none args s) (F0 m 64 ls [.int s0]) := by
  obtain ⟨hx, hb, hml, hown, hts, hr, hlocks, hK, hSt⟩ := id C0
  intro x2 s0 v_soughtBy v_sought v_soughtAt v_foundMany v_foundOrder v_order1 v_placeIn H locs ls hf hP hD hS hl
  unfold fX9_looksAt_64 at hf
  refine lv_istore_n (lv' := [(3, .int s0), (0, .ref (a 0)), (2, .int x2)]) hx hb dX9_looksAt_64 rfl hl (by decide) rfl (fun ls hl => ?_)
  refine lv_iload_n hx hb dX9_looksAt_65 rfl (lv_at hl 0 rfl) ?_
  refine lv_if_ne (tgt := 70) hx hb dX9_looksAt_66 (by decide) (fun c_12 => ?_) (fun c_12 => ?_)
  · have hf := mm_in hf c_12
    refine lv_aload_n hx hb dX9_looksAt_70 rfl (lv_at hl 1 rfl) ?_
    refine lv_aload_n hx hb dX9_looksAt_71 rfl (lv_at hl 1 rfl) ?_
    refine mm_get C0 hP iw_X9 0 rfl rfl 52 (by decide) fl_X9_361 rfl dX9_looksAt_72 ?_
    refine lv_aload_n hx hb dX9_looksAt_75 rfl (lv_at hl 1 rfl) ?_
    refine mm_get C0 hP iw_X9 0 rfl rfl 51 (by decide) fl_X9_364 rfl dX9_looksAt_76 ?_
    refine lv_icmp_ne (tgt := 86) hx hb dX9_looksAt_79 (by decide) (fun c_13 => ?_) (fun c_13 => ?_)
    · have hf := mm_in hf c_13
      refine lv_aload_n hx hb dX9_looksAt_86 rfl (lv_at hl 1 rfl) ?_
      refine mm_get C0 hP iw_X9 0 rfl rfl 53 (by decide) fl_X9_367 rfl dX9_looksAt_87 ?_
      exact tX9_looksAt_90 hd C0 hA N  _ _ _ _ _ _ _ _ H locs ls hf hP hD hS (lv_sub hl [1] rfl)
    · have hf := mm_ip hf c_13
      refine lv_iload_n hx hb dX9_looksAt_82 rfl (lv_at hl 2 rfl) ?_
      refine lv_goto (tgt := 90) hx hb dX9_looksAt_83 (by decide) ?_
      exact tX9_looksAt_90 hd C0 hA N  _ _ _ _ _ _ _ _ H locs ls hf hP hD hS (lv_sub hl [1] rfl)
  · have hf := mm_ip hf c_12
    apply mm_sub2 hf
    exact mm_vret C0 hP hD hS dX9_looksAt_69

def fX9_looksAt_59 (N : Nat)  (x2 : Int32) (v_soughtBy : Int32) (v_sought : Int32) (v_soughtAt : Int32) (v_foundMany : Int32) (v_foundOrder : Int32) (v_order1 : List Int32) (v_placeIn : List Int32) : Option (Int32 × Int32) :=
    fX9_looksAt_64 N x2 (1 : Int32) v_soughtBy v_sought v_soughtAt v_foundMany v_foundOrder v_order1 v_placeIn

set_option maxHeartbeats 4000000 in
set_option maxRecDepth 100000 in
theorem tX9_looksAt_59 {p : Program} {l : Launch} {e : Env} {s : State} {m : MethodId} {args : Array Value} {below : List Frame} {meth : Method} {c : Code} {D : va_G} {cI cL cS cH : ClassId} {A : Nat → Prop} {d : Nat} {a : Nat → Nat} (hd : 4 ≤ d) (C0 : mm_Cx p s m args meth c RX9 cX9_looksAt 4 none D (mm_T cI cL cS cH) A) (hA : ∀ q, s.heap.size ≤ q → A q) {v_keptMany : Int32} {v_done : Int32} {v_rowsOf : Int32} {v_columnsOf : Int32} {v_folded : Int32} {v_wronged : Int32} {v_tapeMany : Int32} {v_textMany : Int32} {v_base : Int32} {v_at : Int32} {v_ends : Int32} {v_fault : Int32} {v_opened : Int32} {v_bentMany : Int32} {v_bentWrong : Int32} {v_moreWorn : Int32} {v_planned : Int32} {v_allWrong : Int32} {v_allWorn : Int32} {v_z : Int32} {v_wishedField : Int32} {v_isFound : Bool} {v_bestWrong : Int32} {v_bestWorn : Int32} {v_bestMany : Int32} {v_isKept : Bool} {v_imageRows : Int32} {v_imageColumns : Int32} {v_imageFolded : Int32} {v_imageWronged : Int32} {v_bodies : Int32} {v_ran : Int32} {v_ownKind : Int32} {v_ownNumber : Int32} {v_limit : List Int32} {v_changeWas : List Int32} {v_changeIs : List Int32} {v_shapeRows : List Int32} {v_shapeColumns : List Int32} {v_row : List Int32} {v_column : List Int32} {v_below : List Int32} {v_face : List Int32} {v_worn : List Int32} {v_lastBend : List Int32} {v_tape : List Int32} {v_text : List Int32} {v_names : List Int32} {v_bends : List Int32} {v_high : List Int32} {v_to : List Int32} {v_pileSize : List Int32} {v_planLine : List Int32} {v_planWay : List Int32} {v_way1 : List Int32} {v_bestWay : List Int32} {v_bodyKind : List Int32} {v_trace : List Int32} {v_shelf : List Int32} {v_many : List Int32} {v_items : List Int64} {v_carried : List Int64} {w_foundMany : Int32} {w_foundOrder : Int32} (N : Nat)  : ∀ (x2 : Int32) (v_soughtBy : Int32) (v_sought : Int32) (v_soughtAt : Int32) (v_foundMany : Int32) (v_foundOrder : Int32) (v_order1 : List Int32) (v_placeIn : List Int32) (H : Heap) (locs : List Loc) (ls : Array Slot), fX9_looksAt_59 N x2 v_soughtBy v_sought v_soughtAt v_foundMany v_foundOrder v_order1 v_placeIn = some (w_foundMany, w_foundOrder) → va_P D mm_cl (wd_X9 cI cL cS cH a v_keptMany v_done v_rowsOf v_columnsOf v_folded v_wronged v_tapeMany v_textMany v_base v_at v_ends v_fault v_opened v_bentMany v_bentWrong v_moreWorn v_planned v_allWrong v_allWorn v_z v_wishedField v_isFound v_bestWrong v_bestWorn v_bestMany v_soughtBy v_sought v_soughtAt v_foundMany v_foundOrder v_isKept v_imageRows v_imageColumns v_imageFolded v_imageWronged v_bodies v_ran v_ownKind v_ownNumber v_limit v_changeWas v_changeIs v_shapeRows v_shapeColumns v_row v_column v_below v_face v_worn v_lastBend v_tape v_text v_names v_bends v_high v_to v_pileSize v_planLine v_planWay v_way1 v_bestWay v_order1 v_placeIn v_bodyKind v_trace v_shelf v_many v_items v_carried) H → va_D A (wd_X9 cI cL cS cH a v_keptMany v_done v_rowsOf v_columnsOf v_folded v_wronged v_tapeMany v_textMany v_base v_at v_ends v_fault v_opened v_bentMany v_bentWrong v_moreWorn v_planned v_allWrong v_allWorn v_z v_wishedField v_isFound v_bestWrong v_bestWorn v_bestMany v_soughtBy v_sought v_soughtAt v_foundMany v_foundOrder v_isKept v_imageRows v_imageColumns v_imageFolded v_imageWronged v_bodies v_ran v_ownKind v_ownNumber v_limit v_changeWas v_changeIs v_shapeRows v_shapeColumns v_row v_column v_below v_face v_worn v_lastBend v_tape v_text v_names v_bends v_high v_to v_pileSize v_planLine v_planWay v_way1 v_bestWay v_order1 v_placeIn v_bodyKind v_trace v_shelf v_many v_items v_carried) → va_S A s.heap H locs → lv_has ls 4 [(0, .ref (a 0)), (2, .int x2)] → W p l e (mm_rr d) s m args below meth c H locs 0 0 (mm_Z below D A (wd_X9 cI cL cS cH a v_keptMany v_done v_rowsOf v_columnsOf v_folded v_wronged v_tapeMany v_textMany v_base v_at v_ends v_fault v_opened v_bentMany v_bentWrong v_moreWorn v_planned v_allWrong v_allWorn v_z v_wishedField v_isFound v_bestWrong v_bestWorn v_bestMany v_soughtBy v_sought v_soughtAt w_foundMany w_foundOrder v_isKept v_imageRows v_imageColumns v_imageFolded v_imageWronged v_bodies v_ran v_ownKind v_ownNumber v_limit v_changeWas v_changeIs v_shapeRows v_shapeColumns v_row v_column v_below v_face v_worn v_lastBend v_tape v_text v_names v_bends v_high v_to v_pileSize v_planLine v_planWay v_way1 v_bestWay v_order1 v_placeIn v_bodyKind v_trace v_shelf v_many v_items v_carried) none args s) (F0 m 59 ls []) := by
  obtain ⟨hx, hb, hml, hown, hts, hr, hlocks, hK, hSt⟩ := id C0
  intro x2 v_soughtBy v_sought v_soughtAt v_foundMany v_foundOrder v_order1 v_placeIn H locs ls hf hP hD hS hl
  unfold fX9_looksAt_59 at hf
  refine lv_iconst (v := 1) hx hb dX9_looksAt_59 (by decide) ?_
  refine lv_goto (tgt := 64) hx hb dX9_looksAt_60 (by decide) ?_
  exact tX9_looksAt_64 hd C0 hA N  _ _ _ _ _ _ _ _ _ H locs ls hf hP hD hS (lv_sub hl [0, 1] rfl)

def fX9_looksAt_63 (N : Nat)  (x2 : Int32) (v_soughtBy : Int32) (v_sought : Int32) (v_soughtAt : Int32) (v_foundMany : Int32) (v_foundOrder : Int32) (v_order1 : List Int32) (v_placeIn : List Int32) : Option (Int32 × Int32) :=
    fX9_looksAt_64 N x2 (0 : Int32) v_soughtBy v_sought v_soughtAt v_foundMany v_foundOrder v_order1 v_placeIn

set_option maxHeartbeats 4000000 in
set_option maxRecDepth 100000 in
theorem tX9_looksAt_63 {p : Program} {l : Launch} {e : Env} {s : State} {m : MethodId} {args : Array Value} {below : List Frame} {meth : Method} {c : Code} {D : va_G} {cI cL cS cH : ClassId} {A : Nat → Prop} {d : Nat} {a : Nat → Nat} (hd : 4 ≤ d) (C0 : mm_Cx p s m args meth c RX9 cX9_looksAt 4 none D (mm_T cI cL cS cH) A) (hA : ∀ q, s.heap.size ≤ q → A q) {v_keptMany : Int32} {v_done : Int32} {v_rowsOf : Int32} {v_columnsOf : Int32} {v_folded : Int32} {v_wronged : Int32} {v_tapeMany : Int32} {v_textMany : Int32} {v_base : Int32} {v_at : Int32} {v_ends : Int32} {v_fault : Int32} {v_opened : Int32} {v_bentMany : Int32} {v_bentWrong : Int32} {v_moreWorn : Int32} {v_planned : Int32} {v_allWrong : Int32} {v_allWorn : Int32} {v_z : Int32} {v_wishedField : Int32} {v_isFound : Bool} {v_bestWrong : Int32} {v_bestWorn : Int32} {v_bestMany : Int32} {v_isKept : Bool} {v_imageRows : Int32} {v_imageColumns : Int32} {v_imageFolded : Int32} {v_imageWronged : Int32} {v_bodies : Int32} {v_ran : Int32} {v_ownKind : Int32} {v_ownNumber : Int32} {v_limit : List Int32} {v_changeWas : List Int32} {v_changeIs : List Int32} {v_shapeRows : List Int32} {v_shapeColumns : List Int32} {v_row : List Int32} {v_column : List Int32} {v_below : List Int32} {v_face : List Int32} {v_worn : List Int32} {v_lastBend : List Int32} {v_tape : List Int32} {v_text : List Int32} {v_names : List Int32} {v_bends : List Int32} {v_high : List Int32} {v_to : List Int32} {v_pileSize : List Int32} {v_planLine : List Int32} {v_planWay : List Int32} {v_way1 : List Int32} {v_bestWay : List Int32} {v_bodyKind : List Int32} {v_trace : List Int32} {v_shelf : List Int32} {v_many : List Int32} {v_items : List Int64} {v_carried : List Int64} {w_foundMany : Int32} {w_foundOrder : Int32} (N : Nat)  : ∀ (x2 : Int32) (v_soughtBy : Int32) (v_sought : Int32) (v_soughtAt : Int32) (v_foundMany : Int32) (v_foundOrder : Int32) (v_order1 : List Int32) (v_placeIn : List Int32) (H : Heap) (locs : List Loc) (ls : Array Slot), fX9_looksAt_63 N x2 v_soughtBy v_sought v_soughtAt v_foundMany v_foundOrder v_order1 v_placeIn = some (w_foundMany, w_foundOrder) → va_P D mm_cl (wd_X9 cI cL cS cH a v_keptMany v_done v_rowsOf v_columnsOf v_folded v_wronged v_tapeMany v_textMany v_base v_at v_ends v_fault v_opened v_bentMany v_bentWrong v_moreWorn v_planned v_allWrong v_allWorn v_z v_wishedField v_isFound v_bestWrong v_bestWorn v_bestMany v_soughtBy v_sought v_soughtAt v_foundMany v_foundOrder v_isKept v_imageRows v_imageColumns v_imageFolded v_imageWronged v_bodies v_ran v_ownKind v_ownNumber v_limit v_changeWas v_changeIs v_shapeRows v_shapeColumns v_row v_column v_below v_face v_worn v_lastBend v_tape v_text v_names v_bends v_high v_to v_pileSize v_planLine v_planWay v_way1 v_bestWay v_order1 v_placeIn v_bodyKind v_trace v_shelf v_many v_items v_carried) H → va_D A (wd_X9 cI cL cS cH a v_keptMany v_done v_rowsOf v_columnsOf v_folded v_wronged v_tapeMany v_textMany v_base v_at v_ends v_fault v_opened v_bentMany v_bentWrong v_moreWorn v_planned v_allWrong v_allWorn v_z v_wishedField v_isFound v_bestWrong v_bestWorn v_bestMany v_soughtBy v_sought v_soughtAt v_foundMany v_foundOrder v_isKept v_imageRows v_imageColumns v_imageFolded v_imageWronged v_bodies v_ran v_ownKind v_ownNumber v_limit v_changeWas v_changeIs v_shapeRows v_shapeColumns v_row v_column v_below v_face v_worn v_lastBend v_tape v_text v_names v_bends v_high v_to v_pileSize v_planLine v_planWay v_way1 v_bestWay v_order1 v_placeIn v_bodyKind v_trace v_shelf v_many v_items v_carried) → va_S A s.heap H locs → lv_has ls 4 [(0, .ref (a 0)), (2, .int x2)] → W p l e (mm_rr d) s m args below meth c H locs 0 0 (mm_Z below D A (wd_X9 cI cL cS cH a v_keptMany v_done v_rowsOf v_columnsOf v_folded v_wronged v_tapeMany v_textMany v_base v_at v_ends v_fault v_opened v_bentMany v_bentWrong v_moreWorn v_planned v_allWrong v_allWorn v_z v_wishedField v_isFound v_bestWrong v_bestWorn v_bestMany v_soughtBy v_sought v_soughtAt w_foundMany w_foundOrder v_isKept v_imageRows v_imageColumns v_imageFolded v_imageWronged v_bodies v_ran v_ownKind v_ownNumber v_limit v_changeWas v_changeIs v_shapeRows v_shapeColumns v_row v_column v_below v_face v_worn v_lastBend v_tape v_text v_names v_bends v_high v_to v_pileSize v_planLine v_planWay v_way1 v_bestWay v_order1 v_placeIn v_bodyKind v_trace v_shelf v_many v_items v_carried) none args s) (F0 m 63 ls []) := by
  obtain ⟨hx, hb, hml, hown, hts, hr, hlocks, hK, hSt⟩ := id C0
  intro x2 v_soughtBy v_sought v_soughtAt v_foundMany v_foundOrder v_order1 v_placeIn H locs ls hf hP hD hS hl
  unfold fX9_looksAt_63 at hf
  refine lv_iconst (v := 0) hx hb dX9_looksAt_63 (by decide) ?_
  exact tX9_looksAt_64 hd C0 hA N  _ _ _ _ _ _ _ _ _ H locs ls hf hP hD hS (lv_sub hl [0, 1] rfl)

def fX9_looksAt_36 (N : Nat)  (x1 : Int32) (x2 : Int32) (v_soughtBy : Int32) (v_sought : Int32) (v_soughtAt : Int32) (v_foundMany : Int32) (v_foundOrder : Int32) (v_order1 : List Int32) (v_placeIn : List Int32) : Option (Int32 × Int32) :=
    if v_soughtBy = (2 : Int32) then
    (mm_ck (mm_inb (x1 - (1 : Int32)) v_order1.length) (if (mm_ig v_order1 (x1 - (1 : Int32))) = v_sought then
    (fX9_looksAt_59 N x2 v_soughtBy v_sought v_soughtAt v_foundMany v_foundOrder v_order1 v_placeIn)
    else (fX9_looksAt_63 N x2 v_soughtBy v_sought v_soughtAt v_foundMany v_foundOrder v_order1 v_placeIn)))
    else (fX9_looksAt_63 N x2 v_soughtBy v_sought v_soughtAt v_foundMany v_foundOrder v_order1 v_placeIn)

set_option maxHeartbeats 4000000 in
set_option maxRecDepth 100000 in
theorem tX9_looksAt_36 {p : Program} {l : Launch} {e : Env} {s : State} {m : MethodId} {args : Array Value} {below : List Frame} {meth : Method} {c : Code} {D : va_G} {cI cL cS cH : ClassId} {A : Nat → Prop} {d : Nat} {a : Nat → Nat} (hd : 4 ≤ d) (C0 : mm_Cx p s m args meth c RX9 cX9_looksAt 4 none D (mm_T cI cL cS cH) A) (hA : ∀ q, s.heap.size ≤ q → A q) {v_keptMany : Int32} {v_done : Int32} {v_rowsOf : Int32} {v_columnsOf : Int32} {v_folded : Int32} {v_wronged : Int32} {v_tapeMany : Int32} {v_textMany : Int32} {v_base : Int32} {v_at : Int32} {v_ends : Int32} {v_fault : Int32} {v_opened : Int32} {v_bentMany : Int32} {v_bentWrong : Int32} {v_moreWorn : Int32} {v_planned : Int32} {v_allWrong : Int32} {v_allWorn : Int32} {v_z : Int32} {v_wishedField : Int32} {v_isFound : Bool} {v_bestWrong : Int32} {v_bestWorn : Int32} {v_bestMany : Int32} {v_isKept : Bool} {v_imageRows : Int32} {v_imageColumns : Int32} {v_imageFolded : Int32} {v_imageWronged : Int32} {v_bodies : Int32} {v_ran : Int32} {v_ownKind : Int32} {v_ownNumber : Int32} {v_limit : List Int32} {v_changeWas : List Int32} {v_changeIs : List Int32} {v_shapeRows : List Int32} {v_shapeColumns : List Int32} {v_row : List Int32} {v_column : List Int32} {v_below : List Int32} {v_face : List Int32} {v_worn : List Int32} {v_lastBend : List Int32} {v_tape : List Int32} {v_text : List Int32} {v_names : List Int32} {v_bends : List Int32} {v_high : List Int32} {v_to : List Int32} {v_pileSize : List Int32} {v_planLine : List Int32} {v_planWay : List Int32} {v_way1 : List Int32} {v_bestWay : List Int32} {v_bodyKind : List Int32} {v_trace : List Int32} {v_shelf : List Int32} {v_many : List Int32} {v_items : List Int64} {v_carried : List Int64} {w_foundMany : Int32} {w_foundOrder : Int32} (N : Nat)  : ∀ (x1 : Int32) (x2 : Int32) (v_soughtBy : Int32) (v_sought : Int32) (v_soughtAt : Int32) (v_foundMany : Int32) (v_foundOrder : Int32) (v_order1 : List Int32) (v_placeIn : List Int32) (H : Heap) (locs : List Loc) (ls : Array Slot), fX9_looksAt_36 N x1 x2 v_soughtBy v_sought v_soughtAt v_foundMany v_foundOrder v_order1 v_placeIn = some (w_foundMany, w_foundOrder) → va_P D mm_cl (wd_X9 cI cL cS cH a v_keptMany v_done v_rowsOf v_columnsOf v_folded v_wronged v_tapeMany v_textMany v_base v_at v_ends v_fault v_opened v_bentMany v_bentWrong v_moreWorn v_planned v_allWrong v_allWorn v_z v_wishedField v_isFound v_bestWrong v_bestWorn v_bestMany v_soughtBy v_sought v_soughtAt v_foundMany v_foundOrder v_isKept v_imageRows v_imageColumns v_imageFolded v_imageWronged v_bodies v_ran v_ownKind v_ownNumber v_limit v_changeWas v_changeIs v_shapeRows v_shapeColumns v_row v_column v_below v_face v_worn v_lastBend v_tape v_text v_names v_bends v_high v_to v_pileSize v_planLine v_planWay v_way1 v_bestWay v_order1 v_placeIn v_bodyKind v_trace v_shelf v_many v_items v_carried) H → va_D A (wd_X9 cI cL cS cH a v_keptMany v_done v_rowsOf v_columnsOf v_folded v_wronged v_tapeMany v_textMany v_base v_at v_ends v_fault v_opened v_bentMany v_bentWrong v_moreWorn v_planned v_allWrong v_allWorn v_z v_wishedField v_isFound v_bestWrong v_bestWorn v_bestMany v_soughtBy v_sought v_soughtAt v_foundMany v_foundOrder v_isKept v_imageRows v_imageColumns v_imageFolded v_imageWronged v_bodies v_ran v_ownKind v_ownNumber v_limit v_changeWas v_changeIs v_shapeRows v_shapeColumns v_row v_column v_below v_face v_worn v_lastBend v_tape v_text v_names v_bends v_high v_to v_pileSize v_planLine v_planWay v_way1 v_bestWay v_order1 v_placeIn v_bodyKind v_trace v_shelf v_many v_items v_carried) → va_S A s.heap H locs → lv_has ls 4 [(0, .ref (a 0)), (1, .int x1), (2, .int x2)] → W p l e (mm_rr d) s m args below meth c H locs 0 0 (mm_Z below D A (wd_X9 cI cL cS cH a v_keptMany v_done v_rowsOf v_columnsOf v_folded v_wronged v_tapeMany v_textMany v_base v_at v_ends v_fault v_opened v_bentMany v_bentWrong v_moreWorn v_planned v_allWrong v_allWorn v_z v_wishedField v_isFound v_bestWrong v_bestWorn v_bestMany v_soughtBy v_sought v_soughtAt w_foundMany w_foundOrder v_isKept v_imageRows v_imageColumns v_imageFolded v_imageWronged v_bodies v_ran v_ownKind v_ownNumber v_limit v_changeWas v_changeIs v_shapeRows v_shapeColumns v_row v_column v_below v_face v_worn v_lastBend v_tape v_text v_names v_bends v_high v_to v_pileSize v_planLine v_planWay v_way1 v_bestWay v_order1 v_placeIn v_bodyKind v_trace v_shelf v_many v_items v_carried) none args s) (F0 m 36 ls []) := by
  obtain ⟨hx, hb, hml, hown, hts, hr, hlocks, hK, hSt⟩ := id C0
  intro x1 x2 v_soughtBy v_sought v_soughtAt v_foundMany v_foundOrder v_order1 v_placeIn H locs ls hf hP hD hS hl
  unfold fX9_looksAt_36 at hf
  refine lv_aload_n hx hb dX9_looksAt_36 rfl (lv_at hl 0 rfl) ?_
  refine mm_get C0 hP iw_X9 0 rfl rfl 49 (by decide) fl_X9_355 rfl dX9_looksAt_37 ?_
  refine lv_iconst (v := 2) hx hb dX9_looksAt_40 (by decide) ?_
  refine lv_icmp_ne (tgt := 63) hx hb dX9_looksAt_41 (by decide) (fun c_9 => ?_) (fun c_9 => ?_)
  · have hf := mm_in hf c_9
    exact tX9_looksAt_63 hd C0 hA N  _ _ _ _ _ _ _ _ H locs ls hf hP hD hS (lv_sub hl [0, 2] rfl)
  · have hf := mm_ip hf c_9
    refine lv_aload_n hx hb dX9_looksAt_44 rfl (lv_at hl 0 rfl) ?_
    refine mm_get C0 hP iw_X9 0 rfl rfl 47 (by decide) fl_X9_76 rfl dX9_looksAt_45 ?_
    refine lv_iload_n hx hb dX9_looksAt_48 rfl (lv_at hl 1 rfl) ?_
    refine lv_iconst (v := 1) hx hb dX9_looksAt_49 (by decide) ?_
    refine lv_isub hx hb dX9_looksAt_50 ?_
    obtain ⟨h_10, hf⟩ := mm_cks hf
    refine mm_iald C0 hP 23 rfl h_10 dX9_looksAt_51 ?_
    refine lv_aload_n hx hb dX9_looksAt_52 rfl (lv_at hl 0 rfl) ?_
    refine mm_get C0 hP iw_X9 0 rfl rfl 50 (by decide) fl_X9_358 rfl dX9_looksAt_53 ?_
    refine lv_icmp_ne (tgt := 63) hx hb dX9_looksAt_56 (by decide) (fun c_11 => ?_) (fun c_11 => ?_)
    · have hf := mm_in hf c_11
      exact tX9_looksAt_63 hd C0 hA N  _ _ _ _ _ _ _ _ H locs ls hf hP hD hS (lv_sub hl [0, 2] rfl)
    · have hf := mm_ip hf c_11
      exact tX9_looksAt_59 hd C0 hA N  _ _ _ _ _ _ _ _ H locs ls hf hP hD hS (lv_sub hl [0, 2] rfl)

def fX9_looksAt (N : Nat) (x1 : Int32) (x2 : Int32) (v_soughtBy : Int32) (v_sought : Int32) (v_soughtAt : Int32) (v_foundMany : Int32) (v_foundOrder : Int32) (v_order1 : List Int32) (v_placeIn : List Int32) : Option (Int32 × Int32) :=
    mm_bd1 (fX9_firstCross N x1 v_placeIn) (fun (r_1 : Int32) =>
    if r_1 < 0 then
    (if v_soughtBy = 0 then
    (fX9_looksAt_59 N x2 v_soughtBy v_sought v_soughtAt v_foundMany v_foundOrder v_order1 v_placeIn)
    else (if v_soughtBy = (1 : Int32) then
    (mm_bd1 (fX9_bendsOf N x1 v_placeIn) (fun (r_6 : Int32) =>
    if r_6 = v_sought then
    (fX9_looksAt_59 N x2 v_soughtBy v_sought v_soughtAt v_foundMany v_foundOrder v_order1 v_placeIn)
    else (fX9_looksAt_36 N x1 x2 v_soughtBy v_sought v_soughtAt v_foundMany v_foundOrder v_order1 v_placeIn)))
    else (fX9_looksAt_36 N x1 x2 v_soughtBy v_sought v_soughtAt v_foundMany v_foundOrder v_order1 v_placeIn)))
    else (some (v_foundMany, v_foundOrder)))

set_option maxHeartbeats 4000000 in
set_option maxRecDepth 100000 in
theorem ctX9_looksAt {l : Launch} {D : va_G} {cI cL cS cH : ClassId} {a : Nat → Nat} {x1 : Int32} {x2 : Int32} {v_keptMany : Int32} {v_done : Int32} {v_rowsOf : Int32} {v_columnsOf : Int32} {v_folded : Int32} {v_wronged : Int32} {v_tapeMany : Int32} {v_textMany : Int32} {v_base : Int32} {v_at : Int32} {v_ends : Int32} {v_fault : Int32} {v_opened : Int32} {v_bentMany : Int32} {v_bentWrong : Int32} {v_moreWorn : Int32} {v_planned : Int32} {v_allWrong : Int32} {v_allWorn : Int32} {v_z : Int32} {v_wishedField : Int32} {v_isFound : Bool} {v_bestWrong : Int32} {v_bestWorn : Int32} {v_bestMany : Int32} {v_soughtBy : Int32} {v_sought : Int32} {v_soughtAt : Int32} {v_foundMany : Int32} {v_foundOrder : Int32} {v_isKept : Bool} {v_imageRows : Int32} {v_imageColumns : Int32} {v_imageFolded : Int32} {v_imageWronged : Int32} {v_bodies : Int32} {v_ran : Int32} {v_ownKind : Int32} {v_ownNumber : Int32} {v_limit : List Int32} {v_changeWas : List Int32} {v_changeIs : List Int32} {v_shapeRows : List Int32} {v_shapeColumns : List Int32} {v_row : List Int32} {v_column : List Int32} {v_below : List Int32} {v_face : List Int32} {v_worn : List Int32} {v_lastBend : List Int32} {v_tape : List Int32} {v_text : List Int32} {v_names : List Int32} {v_bends : List Int32} {v_high : List Int32} {v_to : List Int32} {v_pileSize : List Int32} {v_planLine : List Int32} {v_planWay : List Int32} {v_way1 : List Int32} {v_bestWay : List Int32} {v_order1 : List Int32} {v_placeIn : List Int32} {v_bodyKind : List Int32} {v_trace : List Int32} {v_shelf : List Int32} {v_many : List Int32} {v_items : List Int64} {v_carried : List Int64} {w_foundMany : Int32} {w_foundOrder : Int32} {N d : Nat} (hd : 4 ≤ d) (hf : fX9_looksAt N x1 x2 v_soughtBy v_sought v_soughtAt v_foundMany v_foundOrder v_order1 v_placeIn = some (w_foundMany, w_foundOrder)) : mm_Ct l yX9_looksAt cX9_looksAt 4 none d D (mm_T cI cL cS cH) [.ref (a 0), .int x1, .int x2] (wd_X9 cI cL cS cH a v_keptMany v_done v_rowsOf v_columnsOf v_folded v_wronged v_tapeMany v_textMany v_base v_at v_ends v_fault v_opened v_bentMany v_bentWrong v_moreWorn v_planned v_allWrong v_allWorn v_z v_wishedField v_isFound v_bestWrong v_bestWorn v_bestMany v_soughtBy v_sought v_soughtAt v_foundMany v_foundOrder v_isKept v_imageRows v_imageColumns v_imageFolded v_imageWronged v_bodies v_ran v_ownKind v_ownNumber v_limit v_changeWas v_changeIs v_shapeRows v_shapeColumns v_row v_column v_below v_face v_worn v_lastBend v_tape v_text v_names v_bends v_high v_to v_pileSize v_planLine v_planWay v_way1 v_bestWay v_order1 v_placeIn v_bodyKind v_trace v_shelf v_many v_items v_carried) (wd_X9 cI cL cS cH a v_keptMany v_done v_rowsOf v_columnsOf v_folded v_wronged v_tapeMany v_textMany v_base v_at v_ends v_fault v_opened v_bentMany v_bentWrong v_moreWorn v_planned v_allWrong v_allWorn v_z v_wishedField v_isFound v_bestWrong v_bestWorn v_bestMany v_soughtBy v_sought v_soughtAt w_foundMany w_foundOrder v_isKept v_imageRows v_imageColumns v_imageFolded v_imageWronged v_bodies v_ran v_ownKind v_ownNumber v_limit v_changeWas v_changeIs v_shapeRows v_shapeColumns v_row v_column v_below v_face v_worn v_lastBend v_tape v_text v_names v_bends v_high v_to v_pileSize v_planLine v_planWay v_way1 v_bestWay v_order1 v_placeIn v_bodyKind v_trace v_shelf v_many v_items v_carried) none := by
  refine mm_of (by decide) (Nat.le_of_ble_eq_true rfl) ?_
  intro p e s m args below meth c A H locs ls C0 hP hD hA hS hl
  have C0 : mm_Cx p s m args meth c RX9 cX9_looksAt 4 none D (mm_T cI cL cS cH) A := C0
  obtain ⟨hx, hb, hml, hown, hts, hr, hlocks, hK, hSt⟩ := id C0
  have hl : lv_has ls 4 [(0, .ref (a 0)), (1, .int x1), (2, .int x2)] := hl
  unfold fX9_looksAt at hf
  refine lv_aload_n hx hb dX9_looksAt_0 rfl (lv_at hl 0 rfl) ?_
  refine lv_iload_n hx hb dX9_looksAt_1 rfl (lv_at hl 1 rfl) ?_
  obtain ⟨r_1, hc_2, hf⟩ := mm_bd1s hf
  refine mm_callVF (q0 := 0) (ci := 9) (rest := []) C0 lk_X9_349 (ctX9_firstCross (a := a) (d := d - 1) (by omega) hc_2) (by omega) rfl hl.1 rfl (mm_cat rfl) dX9_looksAt_2 hP hD hA hS rfl rfl (fun H locs hP hD hS => ?_)
  refine W.eq (g2 := F0 m 5 ls [.int r_1]) rfl ?_
  refine lv_if_lt (tgt := 9) hx hb dX9_looksAt_5 (by decide) (fun c_3 => ?_) (fun c_3 => ?_)
  · have hf := mm_ip hf c_3
    refine lv_aload_n hx hb dX9_looksAt_9 rfl (lv_at hl 0 rfl) ?_
    refine mm_get C0 hP iw_X9 0 rfl rfl 49 (by decide) fl_X9_355 rfl dX9_looksAt_10 ?_
    refine lv_if_eq (tgt := 59) hx hb dX9_looksAt_13 (by decide) (fun c_4 => ?_) (fun c_4 => ?_)
    · have hf := mm_ip hf c_4
      exact tX9_looksAt_59 hd C0 hA N  _ _ _ _ _ _ _ _ H locs ls hf hP hD hS (lv_sub hl [0, 2] rfl)
    · have hf := mm_in hf c_4
      refine lv_aload_n hx hb dX9_looksAt_16 rfl (lv_at hl 0 rfl) ?_
      refine mm_get C0 hP iw_X9 0 rfl rfl 49 (by decide) fl_X9_355 rfl dX9_looksAt_17 ?_
      refine lv_iconst (v := 1) hx hb dX9_looksAt_20 (by decide) ?_
      refine lv_icmp_ne (tgt := 36) hx hb dX9_looksAt_21 (by decide) (fun c_5 => ?_) (fun c_5 => ?_)
      · have hf := mm_in hf c_5
        exact tX9_looksAt_36 hd C0 hA N  _ _ _ _ _ _ _ _ _ H locs ls hf hP hD hS (lv_sub hl [0, 1, 2] rfl)
      · have hf := mm_ip hf c_5
        refine lv_aload_n hx hb dX9_looksAt_24 rfl (lv_at hl 0 rfl) ?_
        refine lv_iload_n hx hb dX9_looksAt_25 rfl (lv_at hl 1 rfl) ?_
        obtain ⟨r_6, hc_7, hf⟩ := mm_bd1s hf
        refine mm_callVF (q0 := 0) (ci := 9) (rest := []) C0 lk_X9_352 (ctX9_bendsOf (a := a) (d := d - 1) (by omega) hc_7) (by omega) rfl hl.1 rfl (mm_cat rfl) dX9_looksAt_26 hP hD hA hS rfl rfl (fun H locs hP hD hS => ?_)
        refine W.eq (g2 := F0 m 29 ls [.int r_6]) rfl ?_
        refine lv_aload_n hx hb dX9_looksAt_29 rfl (lv_at hl 0 rfl) ?_
        refine mm_get C0 hP iw_X9 0 rfl rfl 50 (by decide) fl_X9_358 rfl dX9_looksAt_30 ?_
        refine lv_icmp_eq (tgt := 59) hx hb dX9_looksAt_33 (by decide) (fun c_8 => ?_) (fun c_8 => ?_)
        · have hf := mm_ip hf c_8
          exact tX9_looksAt_59 hd C0 hA N  _ _ _ _ _ _ _ _ H locs ls hf hP hD hS (lv_sub hl [0, 2] rfl)
        · have hf := mm_in hf c_8
          exact tX9_looksAt_36 hd C0 hA N  _ _ _ _ _ _ _ _ _ H locs ls hf hP hD hS (lv_sub hl [0, 1, 2] rfl)
  · have hf := mm_in hf c_3
    apply mm_sub2 hf
    exact mm_vret C0 hP hD hS dX9_looksAt_8
end
