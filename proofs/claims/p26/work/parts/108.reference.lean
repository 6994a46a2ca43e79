/-! reference: X9_movesAll -/
theorem nb_dX9_movesAll_0 : bls_w cX9_movesAll [(0, [29]), (1, [7]), (2, [162, 0, 7]), (5, [4]), (6, [167, 0, 4]), (9, [3]), (10, [54, 4]), (12, [29]), (13, [7]), (14, [112]), (15, [5]), (16, [162, 0, 7])] := bls_of (by decide +kernel)
theorem dX9_movesAll_0 : decode cX9_movesAll 0 = .ok (.iload_n 3, 1) := op_29 nb_dX9_movesAll_0.1
theorem dX9_movesAll_1 : decode cX9_movesAll 1 = .ok (.iconst 4, 1) := op_7 nb_dX9_movesAll_0.2.1
set_option maxRecDepth 100000 in
theorem dX9_movesAll_2 : decode cX9_movesAll 2 = .ok (.if_icmp .ge 7, 3) := (op_162 nb_dX9_movesAll_0.2.2.1).trans rfl
theorem dX9_movesAll_5 : decode cX9_movesAll 5 = .ok (.iconst 1, 1) := op_4 nb_dX9_movesAll_0.2.2.2.1
set_option maxRecDepth 100000 in
theorem dX9_movesAll_6 : decode cX9_movesAll 6 = .ok (.goto 4, 3) := (op_167 nb_dX9_movesAll_0.2.2.2.2.1).trans rfl
theorem dX9_movesAll_9 : decode cX9_movesAll 9 = .ok (.iconst 0, 1) := op_3 nb_dX9_movesAll_0.2.2.2.2.2.1
set_option maxRecDepth 100000 in
theorem dX9_movesAll_10 : decode cX9_movesAll 10 = .ok (.istore 4, 2) := (op_54 nb_dX9_movesAll_0.2.2.2.2.2.2.1).trans rfl
theorem dX9_movesAll_12 : decode cX9_movesAll 12 = .ok (.iload_n 3, 1) := op_29 nb_dX9_movesAll_0.2.2.2.2.2.2.2.1
theorem dX9_movesAll_13 : decode cX9_movesAll 13 = .ok (.iconst 4, 1) := op_7 nb_dX9_movesAll_0.2.2.2.2.2.2.2.2.1
theorem dX9_movesAll_14 : decode cX9_movesAll 14 = .ok (.irem, 1) := op_112 nb_dX9_movesAll_0.2.2.2.2.2.2.2.2.2.1
theorem dX9_movesAll_15 : decode cX9_movesAll 15 = .ok (.iconst 2, 1) := op_5 nb_dX9_movesAll_0.2.2.2.2.2.2.2.2.2.2.1
set_option maxRecDepth 100000 in
theorem dX9_movesAll_16 : decode cX9_movesAll 16 = .ok (.if_icmp .ge 7, 3) := (op_162 nb_dX9_movesAll_0.2.2.2.2.2.2.2.2.2.2.2.1).trans rfl
theorem nb_dX9_movesAll_19 : bls_w cX9_movesAll [(19, [4]), (20, [167, 0, 4]), (23, [3]), (24, [54, 5]), (26, [29]), (27, [5]), (28, [112]), (29, [154, 0, 7]), (32, [4]), (33, [167, 0, 4]), (36, [3]), (37, [54, 6])] := bls_of (by decide +kernel)
theorem dX9_movesAll_19 : decode cX9_movesAll 19 = .ok (.iconst 1, 1) := op_4 nb_dX9_movesAll_19.1
set_option maxRecDepth 100000 in
theorem dX9_movesAll_20 : decode cX9_movesAll 20 = .ok (.goto 4, 3) := (op_167 nb_dX9_movesAll_19.2.1).trans rfl
theorem dX9_movesAll_23 : decode cX9_movesAll 23 = .ok (.iconst 0, 1) := op_3 nb_dX9_movesAll_19.2.2.1
set_option maxRecDepth 100000 in
theorem dX9_movesAll_24 : decode cX9_movesAll 24 = .ok (.istore 5, 2) := (op_54 nb_dX9_movesAll_19.2.2.2.1).trans rfl
theorem dX9_movesAll_26 : decode cX9_movesAll 26 = .ok (.iload_n 3, 1) := op_29 nb_dX9_movesAll_19.2.2.2.2.1
theorem dX9_movesAll_27 : decode cX9_movesAll 27 = .ok (.iconst 2, 1) := op_5 nb_dX9_movesAll_19.2.2.2.2.2.1
theorem dX9_movesAll_28 : decode cX9_movesAll 28 = .ok (.irem, 1) := op_112 nb_dX9_movesAll_19.2.2.2.2.2.2.1
set_option maxRecDepth 100000 in
theorem dX9_movesAll_29 : decode cX9_movesAll 29 = .ok (.ifCond .ne 7, 3) := (op_154 nb_dX9_movesAll_19.2.2.2.2.2.2.2.1).trans rfl
theorem dX9_movesAll_32 : decode cX9_movesAll 32 = .ok (.iconst 1, 1) := op_4 nb_dX9_movesAll_19.2.2.2.2.2.2.2.2.1
set_option maxRecDepth 100000 in
theorem dX9_movesAll_33 : decode cX9_movesAll 33 = .ok (.goto 4, 3) := (op_167 nb_dX9_movesAll_19.2.2.2.2.2.2.2.2.2.1).trans rfl
theorem dX9_movesAll_36 : decode cX9_movesAll 36 = .ok (.iconst 0, 1) := op_3 nb_dX9_movesAll_19.2.2.2.2.2.2.2.2.2.2.1
set_option maxRecDepth 100000 in
theorem dX9_movesAll_37 : decode cX9_movesAll 37 = .ok (.istore 6, 2) := (op_54 nb_dX9_movesAll_19.2.2.2.2.2.2.2.2.2.2.2.1).trans rfl
theorem nb_dX9_movesAll_39 : bls_w cX9_movesAll [(39, [21, 4]), (41, [153, 0, 12]), (44, [42]), (45, [180, 0, 22]), (48, [27]), (49, [46]), (50, [167, 0, 9]), (53, [42]), (54, [180, 0, 19]), (57, [27]), (58, [46]), (59, [54, 7])] := bls_of (by decide +kernel)
set_option maxRecDepth 100000 in
theorem dX9_movesAll_39 : decode cX9_movesAll 39 = .ok (.iload 4, 2) := (op_21 nb_dX9_movesAll_39.1).trans rfl
set_option maxRecDepth 100000 in
theorem dX9_movesAll_41 : decode cX9_movesAll 41 = .ok (.ifCond .eq 12, 3) := (op_153 nb_dX9_movesAll_39.2.1).trans rfl
theorem dX9_movesAll_44 : decode cX9_movesAll 44 = .ok (.aload_n 0, 1) := op_42 nb_dX9_movesAll_39.2.2.1
set_option maxRecDepth 100000 in
theorem dX9_movesAll_45 : decode cX9_movesAll 45 = .ok (.getfield 22, 3) := (op_180 nb_dX9_movesAll_39.2.2.2.1).trans rfl
theorem dX9_movesAll_48 : decode cX9_movesAll 48 = .ok (.iload_n 1, 1) := op_27 nb_dX9_movesAll_39.2.2.2.2.1
theorem dX9_movesAll_49 : decode cX9_movesAll 49 = .ok (.iaload, 1) := op_46 nb_dX9_movesAll_39.2.2.2.2.2.1
set_option maxRecDepth 100000 in
theorem dX9_movesAll_50 : decode cX9_movesAll 50 = .ok (.goto 9, 3) := (op_167 nb_dX9_movesAll_39.2.2.2.2.2.2.1).trans rfl
theorem dX9_movesAll_53 : decode cX9_movesAll 53 = .ok (.aload_n 0, 1) := op_42 nb_dX9_movesAll_39.2.2.2.2.2.2.2.1
set_option maxRecDepth 100000 in
theorem dX9_movesAll_54 : decode cX9_movesAll 54 = .ok (.getfield 19, 3) := (op_180 nb_dX9_movesAll_39.2.2.2.2.2.2.2.2.1).trans rfl
theorem dX9_movesAll_57 : decode cX9_movesAll 57 = .ok (.iload_n 1, 1) := op_27 nb_dX9_movesAll_39.2.2.2.2.2.2.2.2.2.1
theorem dX9_movesAll_58 : decode cX9_movesAll 58 = .ok (.iaload, 1) := op_46 nb_dX9_movesAll_39.2.2.2.2.2.2.2.2.2.2.1
set_option maxRecDepth 100000 in
theorem dX9_movesAll_59 : decode cX9_movesAll 59 = .ok (.istore 7, 2) := (op_54 nb_dX9_movesAll_39.2.2.2.2.2.2.2.2.2.2.2.1).trans rfl
theorem nb_dX9_movesAll_61 : bls_w cX9_movesAll [(61, [21, 5]), (63, [153, 0, 7]), (66, [28]), (67, [167, 0, 22]), (70, [5]), (71, [28]), (72, [104]), (73, [21, 7]), (75, [100]), (76, [156, 0, 12]), (79, [5]), (80, [28])] := bls_of (by decide +kernel)
set_option maxRecDepth 100000 in
theorem dX9_movesAll_61 : decode cX9_movesAll 61 = .ok (.iload 5, 2) := (op_21 nb_dX9_movesAll_61.1).trans rfl
set_option maxRecDepth 100000 in
theorem dX9_movesAll_63 : decode cX9_movesAll 63 = .ok (.ifCond .eq 7, 3) := (op_153 nb_dX9_movesAll_61.2.1).trans rfl
theorem dX9_movesAll_66 : decode cX9_movesAll 66 = .ok (.iload_n 2, 1) := op_28 nb_dX9_movesAll_61.2.2.1
set_option maxRecDepth 100000 in
theorem dX9_movesAll_67 : decode cX9_movesAll 67 = .ok (.goto 22, 3) := (op_167 nb_dX9_movesAll_61.2.2.2.1).trans rfl
theorem dX9_movesAll_70 : decode cX9_movesAll 70 = .ok (.iconst 2, 1) := op_5 nb_dX9_movesAll_61.2.2.2.2.1
theorem dX9_movesAll_71 : decode cX9_movesAll 71 = .ok (.iload_n 2, 1) := op_28 nb_dX9_movesAll_61.2.2.2.2.2.1
theorem dX9_movesAll_72 : decode cX9_movesAll 72 = .ok (.imul, 1) := op_104 nb_dX9_movesAll_61.2.2.2.2.2.2.1
set_option maxRecDepth 100000 in
theorem dX9_movesAll_73 : decode cX9_movesAll 73 = .ok (.iload 7, 2) := (op_21 nb_dX9_movesAll_61.2.2.2.2.2.2.2.1).trans rfl
theorem dX9_movesAll_75 : decode cX9_movesAll 75 = .ok (.isub, 1) := op_100 nb_dX9_movesAll_61.2.2.2.2.2.2.2.2.1
set_option maxRecDepth 100000 in
theorem dX9_movesAll_76 : decode cX9_movesAll 76 = .ok (.ifCond .ge 12, 3) := (op_156 nb_dX9_movesAll_61.2.2.2.2.2.2.2.2.2.1).trans rfl
theorem dX9_movesAll_79 : decode cX9_movesAll 79 = .ok (.iconst 2, 1) := op_5 nb_dX9_movesAll_61.2.2.2.2.2.2.2.2.2.2.1
theorem dX9_movesAll_80 : decode cX9_movesAll 80 = .ok (.iload_n 2, 1) := op_28 nb_dX9_movesAll_61.2.2.2.2.2.2.2.2.2.2.2.1
theorem nb_dX9_movesAll_81 : bls_w cX9_movesAll [(81, [104]), (82, [21, 7]), (84, [100]), (85, [167, 0, 4]), (88, [3]), (89, [54, 8]), (91, [3]), (92, [54, 9]), (94, [21, 9]), (96, [16, 64]), (98, [162, 0, 17]), (101, [42])] := bls_of (by decide +kernel)
theorem dX9_movesAll_81 : decode cX9_movesAll 81 = .ok (.imul, 1) := op_104 nb_dX9_movesAll_81.1
set_option maxRecDepth 100000 in
theorem dX9_movesAll_82 : decode cX9_movesAll 82 = .ok (.iload 7, 2) := (op_21 nb_dX9_movesAll_81.2.1).trans rfl
theorem dX9_movesAll_84 : decode cX9_movesAll 84 = .ok (.isub, 1) := op_100 nb_dX9_movesAll_81.2.2.1
set_option maxRecDepth 100000 in
theorem dX9_movesAll_85 : decode cX9_movesAll 85 = .ok (.goto 4, 3) := (op_167 nb_dX9_movesAll_81.2.2.2.1).trans rfl
theorem dX9_movesAll_88 : decode cX9_movesAll 88 = .ok (.iconst 0, 1) := op_3 nb_dX9_movesAll_81.2.2.2.2.1
set_option maxRecDepth 100000 in
theorem dX9_movesAll_89 : decode cX9_movesAll 89 = .ok (.istore 8, 2) := (op_54 nb_dX9_movesAll_81.2.2.2.2.2.1).trans rfl
theorem dX9_movesAll_91 : decode cX9_movesAll 91 = .ok (.iconst 0, 1) := op_3 nb_dX9_movesAll_81.2.2.2.2.2.2.1
set_option maxRecDepth 100000 in
theorem dX9_movesAll_92 : decode cX9_movesAll 92 = .ok (.istore 9, 2) := (op_54 nb_dX9_movesAll_81.2.2.2.2.2.2.2.1).trans rfl
set_option maxRecDepth 100000 in
theorem dX9_movesAll_94 : decode cX9_movesAll 94 = .ok (.iload 9, 2) := (op_21 nb_dX9_movesAll_81.2.2.2.2.2.2.2.2.1).trans rfl
set_option maxRecDepth 100000 in
theorem dX9_movesAll_96 : decode cX9_movesAll 96 = .ok (.bipush 64, 2) := (op_16 nb_dX9_movesAll_81.2.2.2.2.2.2.2.2.2.1).trans rfl
set_option maxRecDepth 100000 in
theorem dX9_movesAll_98 : decode cX9_movesAll 98 = .ok (.if_icmp .ge 17, 3) := (op_162 nb_dX9_movesAll_81.2.2.2.2.2.2.2.2.2.2.1).trans rfl
theorem dX9_movesAll_101 : decode cX9_movesAll 101 = .ok (.aload_n 0, 1) := op_42 nb_dX9_movesAll_81.2.2.2.2.2.2.2.2.2.2.2.1
theorem nb_dX9_movesAll_102 : bls_w cX9_movesAll [(102, [180, 0, 61]), (105, [21, 9]), (107, [3]), (108, [79]), (109, [132, 9, 1]), (112, [167, 255, 238]), (115, [3]), (116, [54, 9]), (118, [21, 9]), (120, [42]), (121, [182, 0, 127]), (124, [162, 0, 47])] := bls_of (by decide +kernel)
set_option maxRecDepth 100000 in
theorem dX9_movesAll_102 : decode cX9_movesAll 102 = .ok (.getfield 61, 3) := (op_180 nb_dX9_movesAll_102.1).trans rfl
set_option maxRecDepth 100000 in
theorem dX9_movesAll_105 : decode cX9_movesAll 105 = .ok (.iload 9, 2) := (op_21 nb_dX9_movesAll_102.2.1).trans rfl
theorem dX9_movesAll_107 : decode cX9_movesAll 107 = .ok (.iconst 0, 1) := op_3 nb_dX9_movesAll_102.2.2.1
theorem dX9_movesAll_108 : decode cX9_movesAll 108 = .ok (.iastore, 1) := op_79 nb_dX9_movesAll_102.2.2.2.1
set_option maxRecDepth 100000 in
theorem dX9_movesAll_109 : decode cX9_movesAll 109 = .ok (.iinc 9 1, 3) := (op_132 nb_dX9_movesAll_102.2.2.2.2.1).trans rfl
set_option maxRecDepth 100000 in
theorem dX9_movesAll_112 : decode cX9_movesAll 112 = .ok (.goto (-18), 3) := (op_167 nb_dX9_movesAll_102.2.2.2.2.2.1).trans rfl
theorem dX9_movesAll_115 : decode cX9_movesAll 115 = .ok (.iconst 0, 1) := op_3 nb_dX9_movesAll_102.2.2.2.2.2.2.1
set_option maxRecDepth 100000 in
theorem dX9_movesAll_116 : decode cX9_movesAll 116 = .ok (.istore 9, 2) := (op_54 nb_dX9_movesAll_102.2.2.2.2.2.2.2.1).trans rfl
set_option maxRecDepth 100000 in
theorem dX9_movesAll_118 : decode cX9_movesAll 118 = .ok (.iload 9, 2) := (op_21 nb_dX9_movesAll_102.2.2.2.2.2.2.2.2.1).trans rfl
theorem dX9_movesAll_120 : decode cX9_movesAll 120 = .ok (.aload_n 0, 1) := op_42 nb_dX9_movesAll_102.2.2.2.2.2.2.2.2.2.1
set_option maxRecDepth 100000 in
theorem dX9_movesAll_121 : decode cX9_movesAll 121 = .ok (.invokevirtual 127, 3) := (op_182 nb_dX9_movesAll_102.2.2.2.2.2.2.2.2.2.2.1).trans rfl
set_option maxRecDepth 100000 in
theorem dX9_movesAll_124 : decode cX9_movesAll 124 = .ok (.if_icmp .ge 47, 3) := (op_162 nb_dX9_movesAll_102.2.2.2.2.2.2.2.2.2.2.2.1).trans rfl
theorem nb_dX9_movesAll_127 : bls_w cX9_movesAll [(127, [42]), (128, [180, 0, 61]), (131, [42]), (132, [27]), (133, [21, 9]), (135, [21, 4]), (137, [182, 0, 204]), (140, [42]), (141, [27]), (142, [21, 9]), (144, [21, 4]), (146, [154, 0, 7])] := bls_of (by decide +kernel)
theorem dX9_movesAll_127 : decode cX9_movesAll 127 = .ok (.aload_n 0, 1) := op_42 nb_dX9_movesAll_127.1
set_option maxRecDepth 100000 in
theorem dX9_movesAll_128 : decode cX9_movesAll 128 = .ok (.getfield 61, 3) := (op_180 nb_dX9_movesAll_127.2.1).trans rfl
theorem dX9_movesAll_131 : decode cX9_movesAll 131 = .ok (.aload_n 0, 1) := op_42 nb_dX9_movesAll_127.2.2.1
theorem dX9_movesAll_132 : decode cX9_movesAll 132 = .ok (.iload_n 1, 1) := op_27 nb_dX9_movesAll_127.2.2.2.1
set_option maxRecDepth 100000 in
theorem dX9_movesAll_133 : decode cX9_movesAll 133 = .ok (.iload 9, 2) := (op_21 nb_dX9_movesAll_127.2.2.2.2.1).trans rfl
set_option maxRecDepth 100000 in
theorem dX9_movesAll_135 : decode cX9_movesAll 135 = .ok (.iload 4, 2) := (op_21 nb_dX9_movesAll_127.2.2.2.2.2.1).trans rfl
set_option maxRecDepth 100000 in
theorem dX9_movesAll_137 : decode cX9_movesAll 137 = .ok (.invokevirtual 204, 3) := (op_182 nb_dX9_movesAll_127.2.2.2.2.2.2.1).trans rfl
theorem dX9_movesAll_140 : decode cX9_movesAll 140 = .ok (.aload_n 0, 1) := op_42 nb_dX9_movesAll_127.2.2.2.2.2.2.2.1
theorem dX9_movesAll_141 : decode cX9_movesAll 141 = .ok (.iload_n 1, 1) := op_27 nb_dX9_movesAll_127.2.2.2.2.2.2.2.2.1
set_option maxRecDepth 100000 in
theorem dX9_movesAll_142 : decode cX9_movesAll 142 = .ok (.iload 9, 2) := (op_21 nb_dX9_movesAll_127.2.2.2.2.2.2.2.2.2.1).trans rfl
set_option maxRecDepth 100000 in
theorem dX9_movesAll_144 : decode cX9_movesAll 144 = .ok (.iload 4, 2) := (op_21 nb_dX9_movesAll_127.2.2.2.2.2.2.2.2.2.2.1).trans rfl
set_option maxRecDepth 100000 in
theorem dX9_movesAll_146 : decode cX9_movesAll 146 = .ok (.ifCond .ne 7, 3) := (op_154 nb_dX9_movesAll_127.2.2.2.2.2.2.2.2.2.2.2.1).trans rfl
theorem nb_dX9_movesAll_149 : bls_w cX9_movesAll [(149, [4]), (150, [167, 0, 4]), (153, [3]), (154, [182, 0, 204]), (157, [184, 0, 228]), (160, [92]), (161, [46]), (162, [4]), (163, [96]), (164, [79]), (165, [132, 9, 1]), (168, [167, 255, 206])] := bls_of (by decide +kernel)
theorem dX9_movesAll_149 : decode cX9_movesAll 149 = .ok (.iconst 1, 1) := op_4 nb_dX9_movesAll_149.1
set_option maxRecDepth 100000 in
theorem dX9_movesAll_150 : decode cX9_movesAll 150 = .ok (.goto 4, 3) := (op_167 nb_dX9_movesAll_149.2.1).trans rfl
theorem dX9_movesAll_153 : decode cX9_movesAll 153 = .ok (.iconst 0, 1) := op_3 nb_dX9_movesAll_149.2.2.1
set_option maxRecDepth 100000 in
theorem dX9_movesAll_154 : decode cX9_movesAll 154 = .ok (.invokevirtual 204, 3) := (op_182 nb_dX9_movesAll_149.2.2.2.1).trans rfl
set_option maxRecDepth 100000 in
theorem dX9_movesAll_157 : decode cX9_movesAll 157 = .ok (.invokestatic 228, 3) := (op_184 nb_dX9_movesAll_149.2.2.2.2.1).trans rfl
theorem dX9_movesAll_160 : decode cX9_movesAll 160 = .ok (.dup2, 1) := op_92 nb_dX9_movesAll_149.2.2.2.2.2.1
theorem dX9_movesAll_161 : decode cX9_movesAll 161 = .ok (.iaload, 1) := op_46 nb_dX9_movesAll_149.2.2.2.2.2.2.1
theorem dX9_movesAll_162 : decode cX9_movesAll 162 = .ok (.iconst 1, 1) := op_4 nb_dX9_movesAll_149.2.2.2.2.2.2.2.1
theorem dX9_movesAll_163 : decode cX9_movesAll 163 = .ok (.iadd, 1) := op_96 nb_dX9_movesAll_149.2.2.2.2.2.2.2.2.1
theorem dX9_movesAll_164 : decode cX9_movesAll 164 = .ok (.iastore, 1) := op_79 nb_dX9_movesAll_149.2.2.2.2.2.2.2.2.2.1
set_option maxRecDepth 100000 in
theorem dX9_movesAll_165 : decode cX9_movesAll 165 = .ok (.iinc 9 1, 3) := (op_132 nb_dX9_movesAll_149.2.2.2.2.2.2.2.2.2.2.1).trans rfl
set_option maxRecDepth 100000 in
theorem dX9_movesAll_168 : decode cX9_movesAll 168 = .ok (.goto (-50), 3) := (op_167 nb_dX9_movesAll_149.2.2.2.2.2.2.2.2.2.2.2.1).trans rfl
theorem nb_dX9_movesAll_171 : bls_w cX9_movesAll [(171, [3]), (172, [54, 9]), (174, [21, 9]), (176, [42]), (177, [182, 0, 127]), (180, [162, 0, 228]), (183, [16, 32]), (185, [27]), (186, [104]), (187, [21, 9]), (189, [96]), (190, [54, 10])] := bls_of (by decide +kernel)
theorem dX9_movesAll_171 : decode cX9_movesAll 171 = .ok (.iconst 0, 1) := op_3 nb_dX9_movesAll_171.1
set_option maxRecDepth 100000 in
theorem dX9_movesAll_172 : decode cX9_movesAll 172 = .ok (.istore 9, 2) := (op_54 nb_dX9_movesAll_171.2.1).trans rfl
set_option maxRecDepth 100000 in
theorem dX9_movesAll_174 : decode cX9_movesAll 174 = .ok (.iload 9, 2) := (op_21 nb_dX9_movesAll_171.2.2.1).trans rfl
theorem dX9_movesAll_176 : decode cX9_movesAll 176 = .ok (.aload_n 0, 1) := op_42 nb_dX9_movesAll_171.2.2.2.1
set_option maxRecDepth 100000 in
theorem dX9_movesAll_177 : decode cX9_movesAll 177 = .ok (.invokevirtual 127, 3) := (op_182 nb_dX9_movesAll_171.2.2.2.2.1).trans rfl
set_option maxRecDepth 100000 in
theorem dX9_movesAll_180 : decode cX9_movesAll 180 = .ok (.if_icmp .ge 228, 3) := (op_162 nb_dX9_movesAll_171.2.2.2.2.2.1).trans rfl
set_option maxRecDepth 100000 in
theorem dX9_movesAll_183 : decode cX9_movesAll 183 = .ok (.bipush 32, 2) := (op_16 nb_dX9_movesAll_171.2.2.2.2.2.2.1).trans rfl
theorem dX9_movesAll_185 : decode cX9_movesAll 185 = .ok (.iload_n 1, 1) := op_27 nb_dX9_movesAll_171.2.2.2.2.2.2.2.1
theorem dX9_movesAll_186 : decode cX9_movesAll 186 = .ok (.imul, 1) := op_104 nb_dX9_movesAll_171.2.2.2.2.2.2.2.2.1
set_option maxRecDepth 100000 in
theorem dX9_movesAll_187 : decode cX9_movesAll 187 = .ok (.iload 9, 2) := (op_21 nb_dX9_movesAll_171.2.2.2.2.2.2.2.2.2.1).trans rfl
theorem dX9_movesAll_189 : decode cX9_movesAll 189 = .ok (.iadd, 1) := op_96 nb_dX9_movesAll_171.2.2.2.2.2.2.2.2.2.2.1
set_option maxRecDepth 100000 in
theorem dX9_movesAll_190 : decode cX9_movesAll 190 = .ok (.istore 10, 2) := (op_54 nb_dX9_movesAll_171.2.2.2.2.2.2.2.2.2.2.2.1).trans rfl
theorem nb_dX9_movesAll_192 : bls_w cX9_movesAll [(192, [42]), (193, [27]), (194, [21, 9]), (196, [21, 4]), (198, [182, 0, 204]), (201, [54, 11]), (203, [42]), (204, [27]), (205, [21, 9]), (207, [21, 4]), (209, [154, 0, 7]), (212, [4])] := bls_of (by decide +kernel)
theorem dX9_movesAll_192 : decode cX9_movesAll 192 = .ok (.aload_n 0, 1) := op_42 nb_dX9_movesAll_192.1
theorem dX9_movesAll_193 : decode cX9_movesAll 193 = .ok (.iload_n 1, 1) := op_27 nb_dX9_movesAll_192.2.1
set_option maxRecDepth 100000 in
theorem dX9_movesAll_194 : decode cX9_movesAll 194 = .ok (.iload 9, 2) := (op_21 nb_dX9_movesAll_192.2.2.1).trans rfl
set_option maxRecDepth 100000 in
theorem dX9_movesAll_196 : decode cX9_movesAll 196 = .ok (.iload 4, 2) := (op_21 nb_dX9_movesAll_192.2.2.2.1).trans rfl
set_option maxRecDepth 100000 in
theorem dX9_movesAll_198 : decode cX9_movesAll 198 = .ok (.invokevirtual 204, 3) := (op_182 nb_dX9_movesAll_192.2.2.2.2.1).trans rfl
set_option maxRecDepth 100000 in
theorem dX9_movesAll_201 : decode cX9_movesAll 201 = .ok (.istore 11, 2) := (op_54 nb_dX9_movesAll_192.2.2.2.2.2.1).trans rfl
theorem dX9_movesAll_203 : decode cX9_movesAll 203 = .ok (.aload_n 0, 1) := op_42 nb_dX9_movesAll_192.2.2.2.2.2.2.1
theorem dX9_movesAll_204 : decode cX9_movesAll 204 = .ok (.iload_n 1, 1) := op_27 nb_dX9_movesAll_192.2.2.2.2.2.2.2.1
set_option maxRecDepth 100000 in
theorem dX9_movesAll_205 : decode cX9_movesAll 205 = .ok (.iload 9, 2) := (op_21 nb_dX9_movesAll_192.2.2.2.2.2.2.2.2.1).trans rfl
set_option maxRecDepth 100000 in
theorem dX9_movesAll_207 : decode cX9_movesAll 207 = .ok (.iload 4, 2) := (op_21 nb_dX9_movesAll_192.2.2.2.2.2.2.2.2.2.1).trans rfl
set_option maxRecDepth 100000 in
theorem dX9_movesAll_209 : decode cX9_movesAll 209 = .ok (.ifCond .ne 7, 3) := (op_154 nb_dX9_movesAll_192.2.2.2.2.2.2.2.2.2.2.1).trans rfl
theorem dX9_movesAll_212 : decode cX9_movesAll 212 = .ok (.iconst 1, 1) := op_4 nb_dX9_movesAll_192.2.2.2.2.2.2.2.2.2.2.2.1
theorem nb_dX9_movesAll_213 : bls_w cX9_movesAll [(213, [167, 0, 4]), (216, [3]), (217, [182, 0, 204]), (220, [54, 12]), (222, [5]), (223, [28]), (224, [104]), (225, [4]), (226, [100]), (227, [21, 11]), (229, [100]), (230, [54, 13])] := bls_of (by decide +kernel)
set_option maxRecDepth 100000 in
theorem dX9_movesAll_213 : decode cX9_movesAll 213 = .ok (.goto 4, 3) := (op_167 nb_dX9_movesAll_213.1).trans rfl
theorem dX9_movesAll_216 : decode cX9_movesAll 216 = .ok (.iconst 0, 1) := op_3 nb_dX9_movesAll_213.2.1
set_option maxRecDepth 100000 in
theorem dX9_movesAll_217 : decode cX9_movesAll 217 = .ok (.invokevirtual 204, 3) := (op_182 nb_dX9_movesAll_213.2.2.1).trans rfl
set_option maxRecDepth 100000 in
theorem dX9_movesAll_220 : decode cX9_movesAll 220 = .ok (.istore 12, 2) := (op_54 nb_dX9_movesAll_213.2.2.2.1).trans rfl
theorem dX9_movesAll_222 : decode cX9_movesAll 222 = .ok (.iconst 2, 1) := op_5 nb_dX9_movesAll_213.2.2.2.2.1
theorem dX9_movesAll_223 : decode cX9_movesAll 223 = .ok (.iload_n 2, 1) := op_28 nb_dX9_movesAll_213.2.2.2.2.2.1
theorem dX9_movesAll_224 : decode cX9_movesAll 224 = .ok (.imul, 1) := op_104 nb_dX9_movesAll_213.2.2.2.2.2.2.1
theorem dX9_movesAll_225 : decode cX9_movesAll 225 = .ok (.iconst 1, 1) := op_4 nb_dX9_movesAll_213.2.2.2.2.2.2.2.1
theorem dX9_movesAll_226 : decode cX9_movesAll 226 = .ok (.isub, 1) := op_100 nb_dX9_movesAll_213.2.2.2.2.2.2.2.2.1
set_option maxRecDepth 100000 in
theorem dX9_movesAll_227 : decode cX9_movesAll 227 = .ok (.iload 11, 2) := (op_21 nb_dX9_movesAll_213.2.2.2.2.2.2.2.2.2.1).trans rfl
theorem dX9_movesAll_229 : decode cX9_movesAll 229 = .ok (.isub, 1) := op_100 nb_dX9_movesAll_213.2.2.2.2.2.2.2.2.2.2.1
set_option maxRecDepth 100000 in
theorem dX9_movesAll_230 : decode cX9_movesAll 230 = .ok (.istore 13, 2) := (op_54 nb_dX9_movesAll_213.2.2.2.2.2.2.2.2.2.2.2.1).trans rfl
theorem nb_dX9_movesAll_232 : bls_w cX9_movesAll [(232, [21, 13]), (234, [133]), (235, [9]), (236, [21, 7]), (238, [4]), (239, [100]), (240, [133]), (241, [184, 0, 111]), (244, [153, 0, 18]), (247, [42]), (248, [180, 0, 61]), (251, [21, 13])] := bls_of (by decide +kernel)
set_option maxRecDepth 100000 in
theorem dX9_movesAll_232 : decode cX9_movesAll 232 = .ok (.iload 13, 2) := (op_21 nb_dX9_movesAll_232.1).trans rfl
theorem dX9_movesAll_234 : decode cX9_movesAll 234 = .ok (.i2l, 1) := op_133 nb_dX9_movesAll_232.2.1
theorem dX9_movesAll_235 : decode cX9_movesAll 235 = .ok (.lconst 0, 1) := op_9 nb_dX9_movesAll_232.2.2.1
set_option maxRecDepth 100000 in
theorem dX9_movesAll_236 : decode cX9_movesAll 236 = .ok (.iload 7, 2) := (op_21 nb_dX9_movesAll_232.2.2.2.1).trans rfl
theorem dX9_movesAll_238 : decode cX9_movesAll 238 = .ok (.iconst 1, 1) := op_4 nb_dX9_movesAll_232.2.2.2.2.1
theorem dX9_movesAll_239 : decode cX9_movesAll 239 = .ok (.isub, 1) := op_100 nb_dX9_movesAll_232.2.2.2.2.2.1
theorem dX9_movesAll_240 : decode cX9_movesAll 240 = .ok (.i2l, 1) := op_133 nb_dX9_movesAll_232.2.2.2.2.2.2.1
set_option maxRecDepth 100000 in
theorem dX9_movesAll_241 : decode cX9_movesAll 241 = .ok (.invokestatic 111, 3) := (op_184 nb_dX9_movesAll_232.2.2.2.2.2.2.2.1).trans rfl
set_option maxRecDepth 100000 in
theorem dX9_movesAll_244 : decode cX9_movesAll 244 = .ok (.ifCond .eq 18, 3) := (op_153 nb_dX9_movesAll_232.2.2.2.2.2.2.2.2.1).trans rfl
theorem dX9_movesAll_247 : decode cX9_movesAll 247 = .ok (.aload_n 0, 1) := op_42 nb_dX9_movesAll_232.2.2.2.2.2.2.2.2.2.1
set_option maxRecDepth 100000 in
theorem dX9_movesAll_248 : decode cX9_movesAll 248 = .ok (.getfield 61, 3) := (op_180 nb_dX9_movesAll_232.2.2.2.2.2.2.2.2.2.2.1).trans rfl
set_option maxRecDepth 100000 in
theorem dX9_movesAll_251 : decode cX9_movesAll 251 = .ok (.iload 13, 2) := (op_21 nb_dX9_movesAll_232.2.2.2.2.2.2.2.2.2.2.2.1).trans rfl
theorem nb_dX9_movesAll_253 : bls_w cX9_movesAll [(253, [21, 12]), (255, [184, 0, 228]), (258, [46]), (259, [167, 0, 4]), (262, [3]), (263, [54, 14]), (265, [21, 11]), (267, [28]), (268, [162, 0, 7]), (271, [4]), (272, [167, 0, 4]), (275, [3])] := bls_of (by decide +kernel)
set_option maxRecDepth 100000 in
theorem dX9_movesAll_253 : decode cX9_movesAll 253 = .ok (.iload 12, 2) := (op_21 nb_dX9_movesAll_253.1).trans rfl
set_option maxRecDepth 100000 in
theorem dX9_movesAll_255 : decode cX9_movesAll 255 = .ok (.invokestatic 228, 3) := (op_184 nb_dX9_movesAll_253.2.1).trans rfl
theorem dX9_movesAll_258 : decode cX9_movesAll 258 = .ok (.iaload, 1) := op_46 nb_dX9_movesAll_253.2.2.1
set_option maxRecDepth 100000 in
theorem dX9_movesAll_259 : decode cX9_movesAll 259 = .ok (.goto 4, 3) := (op_167 nb_dX9_movesAll_253.2.2.2.1).trans rfl
theorem dX9_movesAll_262 : decode cX9_movesAll 262 = .ok (.iconst 0, 1) := op_3 nb_dX9_movesAll_253.2.2.2.2.1
set_option maxRecDepth 100000 in
theorem dX9_movesAll_263 : decode cX9_movesAll 263 = .ok (.istore 14, 2) := (op_54 nb_dX9_movesAll_253.2.2.2.2.2.1).trans rfl
set_option maxRecDepth 100000 in
theorem dX9_movesAll_265 : decode cX9_movesAll 265 = .ok (.iload 11, 2) := (op_21 nb_dX9_movesAll_253.2.2.2.2.2.2.1).trans rfl
theorem dX9_movesAll_267 : decode cX9_movesAll 267 = .ok (.iload_n 2, 1) := op_28 nb_dX9_movesAll_253.2.2.2.2.2.2.2.1
set_option maxRecDepth 100000 in
theorem dX9_movesAll_268 : decode cX9_movesAll 268 = .ok (.if_icmp .ge 7, 3) := (op_162 nb_dX9_movesAll_253.2.2.2.2.2.2.2.2.1).trans rfl
theorem dX9_movesAll_271 : decode cX9_movesAll 271 = .ok (.iconst 1, 1) := op_4 nb_dX9_movesAll_253.2.2.2.2.2.2.2.2.2.1
set_option maxRecDepth 100000 in
theorem dX9_movesAll_272 : decode cX9_movesAll 272 = .ok (.goto 4, 3) := (op_167 nb_dX9_movesAll_253.2.2.2.2.2.2.2.2.2.2.1).trans rfl
theorem dX9_movesAll_275 : decode cX9_movesAll 275 = .ok (.iconst 0, 1) := op_3 nb_dX9_movesAll_253.2.2.2.2.2.2.2.2.2.2.2.1
theorem nb_dX9_movesAll_276 : bls_w cX9_movesAll [(276, [21, 5]), (278, [160, 0, 80]), (281, [42]), (282, [180, 0, 61]), (285, [21, 11]), (287, [21, 12]), (289, [184, 0, 228]), (292, [46]), (293, [4]), (294, [100]), (295, [42]), (296, [180, 0, 31])] := bls_of (by decide +kernel)
set_option maxRecDepth 100000 in
theorem dX9_movesAll_276 : decode cX9_movesAll 276 = .ok (.iload 5, 2) := (op_21 nb_dX9_movesAll_276.1).trans rfl
set_option maxRecDepth 100000 in
theorem dX9_movesAll_278 : decode cX9_movesAll 278 = .ok (.if_icmp .ne 80, 3) := (op_160 nb_dX9_movesAll_276.2.1).trans rfl
theorem dX9_movesAll_281 : decode cX9_movesAll 281 = .ok (.aload_n 0, 1) := op_42 nb_dX9_movesAll_276.2.2.1
set_option maxRecDepth 100000 in
theorem dX9_movesAll_282 : decode cX9_movesAll 282 = .ok (.getfield 61, 3) := (op_180 nb_dX9_movesAll_276.2.2.2.1).trans rfl
set_option maxRecDepth 100000 in
theorem dX9_movesAll_285 : decode cX9_movesAll 285 = .ok (.iload 11, 2) := (op_21 nb_dX9_movesAll_276.2.2.2.2.1).trans rfl
set_option maxRecDepth 100000 in
theorem dX9_movesAll_287 : decode cX9_movesAll 287 = .ok (.iload 12, 2) := (op_21 nb_dX9_movesAll_276.2.2.2.2.2.1).trans rfl
set_option maxRecDepth 100000 in
theorem dX9_movesAll_289 : decode cX9_movesAll 289 = .ok (.invokestatic 228, 3) := (op_184 nb_dX9_movesAll_276.2.2.2.2.2.2.1).trans rfl
theorem dX9_movesAll_292 : decode cX9_movesAll 292 = .ok (.iaload, 1) := op_46 nb_dX9_movesAll_276.2.2.2.2.2.2.2.1
theorem dX9_movesAll_293 : decode cX9_movesAll 293 = .ok (.iconst 1, 1) := op_4 nb_dX9_movesAll_276.2.2.2.2.2.2.2.2.1
theorem dX9_movesAll_294 : decode cX9_movesAll 294 = .ok (.isub, 1) := op_100 nb_dX9_movesAll_276.2.2.2.2.2.2.2.2.2.1
theorem dX9_movesAll_295 : decode cX9_movesAll 295 = .ok (.aload_n 0, 1) := op_42 nb_dX9_movesAll_276.2.2.2.2.2.2.2.2.2.2.1
set_option maxRecDepth 100000 in
theorem dX9_movesAll_296 : decode cX9_movesAll 296 = .ok (.getfield 31, 3) := (op_180 nb_dX9_movesAll_276.2.2.2.2.2.2.2.2.2.2.2.1).trans rfl
theorem nb_dX9_movesAll_299 : bls_w cX9_movesAll [(299, [21, 10]), (301, [46]), (302, [100]), (303, [54, 15]), (305, [42]), (306, [180, 0, 55]), (309, [21, 9]), (311, [21, 6]), (313, [153, 0, 11]), (316, [21, 15]), (318, [21, 14]), (320, [96])] := bls_of (by decide +kernel)
set_option maxRecDepth 100000 in
theorem dX9_movesAll_299 : decode cX9_movesAll 299 = .ok (.iload 10, 2) := (op_21 nb_dX9_movesAll_299.1).trans rfl
theorem dX9_movesAll_301 : decode cX9_movesAll 301 = .ok (.iaload, 1) := op_46 nb_dX9_movesAll_299.2.1
theorem dX9_movesAll_302 : decode cX9_movesAll 302 = .ok (.isub, 1) := op_100 nb_dX9_movesAll_299.2.2.1
set_option maxRecDepth 100000 in
theorem dX9_movesAll_303 : decode cX9_movesAll 303 = .ok (.istore 15, 2) := (op_54 nb_dX9_movesAll_299.2.2.2.1).trans rfl
theorem dX9_movesAll_305 : decode cX9_movesAll 305 = .ok (.aload_n 0, 1) := op_42 nb_dX9_movesAll_299.2.2.2.2.1
set_option maxRecDepth 100000 in
theorem dX9_movesAll_306 : decode cX9_movesAll 306 = .ok (.getfield 55, 3) := (op_180 nb_dX9_movesAll_299.2.2.2.2.2.1).trans rfl
set_option maxRecDepth 100000 in
theorem dX9_movesAll_309 : decode cX9_movesAll 309 = .ok (.iload 9, 2) := (op_21 nb_dX9_movesAll_299.2.2.2.2.2.2.1).trans rfl
set_option maxRecDepth 100000 in
theorem dX9_movesAll_311 : decode cX9_movesAll 311 = .ok (.iload 6, 2) := (op_21 nb_dX9_movesAll_299.2.2.2.2.2.2.2.1).trans rfl
set_option maxRecDepth 100000 in
theorem dX9_movesAll_313 : decode cX9_movesAll 313 = .ok (.ifCond .eq 11, 3) := (op_153 nb_dX9_movesAll_299.2.2.2.2.2.2.2.2.1).trans rfl
set_option maxRecDepth 100000 in
theorem dX9_movesAll_316 : decode cX9_movesAll 316 = .ok (.iload 15, 2) := (op_21 nb_dX9_movesAll_299.2.2.2.2.2.2.2.2.2.1).trans rfl
set_option maxRecDepth 100000 in
theorem dX9_movesAll_318 : decode cX9_movesAll 318 = .ok (.iload 14, 2) := (op_21 nb_dX9_movesAll_299.2.2.2.2.2.2.2.2.2.2.1).trans rfl
theorem dX9_movesAll_320 : decode cX9_movesAll 320 = .ok (.iadd, 1) := op_96 nb_dX9_movesAll_299.2.2.2.2.2.2.2.2.2.2.2.1
theorem nb_dX9_movesAll_321 : bls_w cX9_movesAll [(321, [167, 0, 5]), (324, [21, 15]), (326, [79]), (327, [42]), (328, [180, 0, 34]), (331, [21, 10]), (333, [4]), (334, [42]), (335, [180, 0, 34]), (338, [21, 10]), (340, [46]), (341, [100])] := bls_of (by decide +kernel)
set_option maxRecDepth 100000 in
theorem dX9_movesAll_321 : decode cX9_movesAll 321 = .ok (.goto 5, 3) := (op_167 nb_dX9_movesAll_321.1).trans rfl
set_option maxRecDepth 100000 in
theorem dX9_movesAll_324 : decode cX9_movesAll 324 = .ok (.iload 15, 2) := (op_21 nb_dX9_movesAll_321.2.1).trans rfl
theorem dX9_movesAll_326 : decode cX9_movesAll 326 = .ok (.iastore, 1) := op_79 nb_dX9_movesAll_321.2.2.1
theorem dX9_movesAll_327 : decode cX9_movesAll 327 = .ok (.aload_n 0, 1) := op_42 nb_dX9_movesAll_321.2.2.2.1
set_option maxRecDepth 100000 in
theorem dX9_movesAll_328 : decode cX9_movesAll 328 = .ok (.getfield 34, 3) := (op_180 nb_dX9_movesAll_321.2.2.2.2.1).trans rfl
set_option maxRecDepth 100000 in
theorem dX9_movesAll_331 : decode cX9_movesAll 331 = .ok (.iload 10, 2) := (op_21 nb_dX9_movesAll_321.2.2.2.2.2.1).trans rfl
theorem dX9_movesAll_333 : decode cX9_movesAll 333 = .ok (.iconst 1, 1) := op_4 nb_dX9_movesAll_321.2.2.2.2.2.2.1
theorem dX9_movesAll_334 : decode cX9_movesAll 334 = .ok (.aload_n 0, 1) := op_42 nb_dX9_movesAll_321.2.2.2.2.2.2.2.1
set_option maxRecDepth 100000 in
theorem dX9_movesAll_335 : decode cX9_movesAll 335 = .ok (.getfield 34, 3) := (op_180 nb_dX9_movesAll_321.2.2.2.2.2.2.2.2.1).trans rfl
set_option maxRecDepth 100000 in
theorem dX9_movesAll_338 : decode cX9_movesAll 338 = .ok (.iload 10, 2) := (op_21 nb_dX9_movesAll_321.2.2.2.2.2.2.2.2.2.1).trans rfl
theorem dX9_movesAll_340 : decode cX9_movesAll 340 = .ok (.iaload, 1) := op_46 nb_dX9_movesAll_321.2.2.2.2.2.2.2.2.2.2.1
theorem dX9_movesAll_341 : decode cX9_movesAll 341 = .ok (.isub, 1) := op_100 nb_dX9_movesAll_321.2.2.2.2.2.2.2.2.2.2.2.1
theorem nb_dX9_movesAll_342 : bls_w cX9_movesAll [(342, [79]), (343, [42]), (344, [180, 0, 58]), (347, [21, 9]), (349, [21, 13]), (351, [21, 8]), (353, [100]), (354, [79]), (355, [167, 0, 47]), (358, [42]), (359, [180, 0, 55]), (362, [21, 9])] := bls_of (by decide +kernel)
theorem dX9_movesAll_342 : decode cX9_movesAll 342 = .ok (.iastore, 1) := op_79 nb_dX9_movesAll_342.1
theorem dX9_movesAll_343 : decode cX9_movesAll 343 = .ok (.aload_n 0, 1) := op_42 nb_dX9_movesAll_342.2.1
set_option maxRecDepth 100000 in
theorem dX9_movesAll_344 : decode cX9_movesAll 344 = .ok (.getfield 58, 3) := (op_180 nb_dX9_movesAll_342.2.2.1).trans rfl
set_option maxRecDepth 100000 in
theorem dX9_movesAll_347 : decode cX9_movesAll 347 = .ok (.iload 9, 2) := (op_21 nb_dX9_movesAll_342.2.2.2.1).trans rfl
set_option maxRecDepth 100000 in
theorem dX9_movesAll_349 : decode cX9_movesAll 349 = .ok (.iload 13, 2) := (op_21 nb_dX9_movesAll_342.2.2.2.2.1).trans rfl
set_option maxRecDepth 100000 in
theorem dX9_movesAll_351 : decode cX9_movesAll 351 = .ok (.iload 8, 2) := (op_21 nb_dX9_movesAll_342.2.2.2.2.2.1).trans rfl
theorem dX9_movesAll_353 : decode cX9_movesAll 353 = .ok (.isub, 1) := op_100 nb_dX9_movesAll_342.2.2.2.2.2.2.1
theorem dX9_movesAll_354 : decode cX9_movesAll 354 = .ok (.iastore, 1) := op_79 nb_dX9_movesAll_342.2.2.2.2.2.2.2.1
set_option maxRecDepth 100000 in
theorem dX9_movesAll_355 : decode cX9_movesAll 355 = .ok (.goto 47, 3) := (op_167 nb_dX9_movesAll_342.2.2.2.2.2.2.2.2.1).trans rfl
theorem dX9_movesAll_358 : decode cX9_movesAll 358 = .ok (.aload_n 0, 1) := op_42 nb_dX9_movesAll_342.2.2.2.2.2.2.2.2.2.1
set_option maxRecDepth 100000 in
theorem dX9_movesAll_359 : decode cX9_movesAll 359 = .ok (.getfield 55, 3) := (op_180 nb_dX9_movesAll_342.2.2.2.2.2.2.2.2.2.2.1).trans rfl
set_option maxRecDepth 100000 in
theorem dX9_movesAll_362 : decode cX9_movesAll 362 = .ok (.iload 9, 2) := (op_21 nb_dX9_movesAll_342.2.2.2.2.2.2.2.2.2.2.2.1).trans rfl
theorem nb_dX9_movesAll_364 : bls_w cX9_movesAll [(364, [21, 6]), (366, [153, 0, 13]), (369, [42]), (370, [180, 0, 31]), (373, [21, 10]), (375, [46]), (376, [167, 0, 13]), (379, [42]), (380, [180, 0, 31]), (383, [21, 10]), (385, [46]), (386, [21, 14])] := bls_of (by decide +kernel)
set_option maxRecDepth 100000 in
theorem dX9_movesAll_364 : decode cX9_movesAll 364 = .ok (.iload 6, 2) := (op_21 nb_dX9_movesAll_364.1).trans rfl
set_option maxRecDepth 100000 in
theorem dX9_movesAll_366 : decode cX9_movesAll 366 = .ok (.ifCond .eq 13, 3) := (op_153 nb_dX9_movesAll_364.2.1).trans rfl
theorem dX9_movesAll_369 : decode cX9_movesAll 369 = .ok (.aload_n 0, 1) := op_42 nb_dX9_movesAll_364.2.2.1
set_option maxRecDepth 100000 in
theorem dX9_movesAll_370 : decode cX9_movesAll 370 = .ok (.getfield 31, 3) := (op_180 nb_dX9_movesAll_364.2.2.2.1).trans rfl
set_option maxRecDepth 100000 in
theorem dX9_movesAll_373 : decode cX9_movesAll 373 = .ok (.iload 10, 2) := (op_21 nb_dX9_movesAll_364.2.2.2.2.1).trans rfl
theorem dX9_movesAll_375 : decode cX9_movesAll 375 = .ok (.iaload, 1) := op_46 nb_dX9_movesAll_364.2.2.2.2.2.1
set_option maxRecDepth 100000 in
theorem dX9_movesAll_376 : decode cX9_movesAll 376 = .ok (.goto 13, 3) := (op_167 nb_dX9_movesAll_364.2.2.2.2.2.2.1).trans rfl
theorem dX9_movesAll_379 : decode cX9_movesAll 379 = .ok (.aload_n 0, 1) := op_42 nb_dX9_movesAll_364.2.2.2.2.2.2.2.1
set_option maxRecDepth 100000 in
theorem dX9_movesAll_380 : decode cX9_movesAll 380 = .ok (.getfield 31, 3) := (op_180 nb_dX9_movesAll_364.2.2.2.2.2.2.2.2.1).trans rfl
set_option maxRecDepth 100000 in
theorem dX9_movesAll_383 : decode cX9_movesAll 383 = .ok (.iload 10, 2) := (op_21 nb_dX9_movesAll_364.2.2.2.2.2.2.2.2.2.1).trans rfl
theorem dX9_movesAll_385 : decode cX9_movesAll 385 = .ok (.iaload, 1) := op_46 nb_dX9_movesAll_364.2.2.2.2.2.2.2.2.2.2.1
set_option maxRecDepth 100000 in
theorem dX9_movesAll_386 : decode cX9_movesAll 386 = .ok (.iload 14, 2) := (op_21 nb_dX9_movesAll_364.2.2.2.2.2.2.2.2.2.2.2.1).trans rfl
theorem nb_dX9_movesAll_388 : bls_w cX9_movesAll [(388, [96]), (389, [79]), (390, [42]), (391, [180, 0, 58]), (394, [21, 9]), (396, [21, 11]), (398, [21, 8]), (400, [100]), (401, [79]), (402, [132, 9, 1]), (405, [167, 255, 25]), (408, [3])] := bls_of (by decide +kernel)
theorem dX9_movesAll_388 : decode cX9_movesAll 388 = .ok (.iadd, 1) := op_96 nb_dX9_movesAll_388.1
theorem dX9_movesAll_389 : decode cX9_movesAll 389 = .ok (.iastore, 1) := op_79 nb_dX9_movesAll_388.2.1
theorem dX9_movesAll_390 : decode cX9_movesAll 390 = .ok (.aload_n 0, 1) := op_42 nb_dX9_movesAll_388.2.2.1
set_option maxRecDepth 100000 in
theorem dX9_movesAll_391 : decode cX9_movesAll 391 = .ok (.getfield 58, 3) := (op_180 nb_dX9_movesAll_388.2.2.2.1).trans rfl
set_option maxRecDepth 100000 in
theorem dX9_movesAll_394 : decode cX9_movesAll 394 = .ok (.iload 9, 2) := (op_21 nb_dX9_movesAll_388.2.2.2.2.1).trans rfl
set_option maxRecDepth 100000 in
theorem dX9_movesAll_396 : decode cX9_movesAll 396 = .ok (.iload 11, 2) := (op_21 nb_dX9_movesAll_388.2.2.2.2.2.1).trans rfl
set_option maxRecDepth 100000 in
theorem dX9_movesAll_398 : decode cX9_movesAll 398 = .ok (.iload 8, 2) := (op_21 nb_dX9_movesAll_388.2.2.2.2.2.2.1).trans rfl
theorem dX9_movesAll_400 : decode cX9_movesAll 400 = .ok (.isub, 1) := op_100 nb_dX9_movesAll_388.2.2.2.2.2.2.2.1
theorem dX9_movesAll_401 : decode cX9_movesAll 401 = .ok (.iastore, 1) := op_79 nb_dX9_movesAll_388.2.2.2.2.2.2.2.2.1
set_option maxRecDepth 100000 in
theorem dX9_movesAll_402 : decode cX9_movesAll 402 = .ok (.iinc 9 1, 3) := (op_132 nb_dX9_movesAll_388.2.2.2.2.2.2.2.2.2.1).trans rfl
set_option maxRecDepth 100000 in
theorem dX9_movesAll_405 : decode cX9_movesAll 405 = .ok (.goto (-231), 3) := (op_167 nb_dX9_movesAll_388.2.2.2.2.2.2.2.2.2.2.1).trans rfl
theorem dX9_movesAll_408 : decode cX9_movesAll 408 = .ok (.iconst 0, 1) := op_3 nb_dX9_movesAll_388.2.2.2.2.2.2.2.2.2.2.2.1
theorem nb_dX9_movesAll_409 : bls_w cX9_movesAll [(409, [54, 9]), (411, [21, 9]), (413, [42]), (414, [182, 0, 127]), (417, [162, 0, 74]), (420, [42]), (421, [180, 0, 31]), (424, [16, 32]), (426, [27]), (427, [104]), (428, [21, 9]), (430, [96])] := bls_of (by decide +kernel)
set_option maxRecDepth 100000 in
theorem dX9_movesAll_409 : decode cX9_movesAll 409 = .ok (.istore 9, 2) := (op_54 nb_dX9_movesAll_409.1).trans rfl
set_option maxRecDepth 100000 in
theorem dX9_movesAll_411 : decode cX9_movesAll 411 = .ok (.iload 9, 2) := (op_21 nb_dX9_movesAll_409.2.1).trans rfl
theorem dX9_movesAll_413 : decode cX9_movesAll 413 = .ok (.aload_n 0, 1) := op_42 nb_dX9_movesAll_409.2.2.1
set_option maxRecDepth 100000 in
theorem dX9_movesAll_414 : decode cX9_movesAll 414 = .ok (.invokevirtual 127, 3) := (op_182 nb_dX9_movesAll_409.2.2.2.1).trans rfl
set_option maxRecDepth 100000 in
theorem dX9_movesAll_417 : decode cX9_movesAll 417 = .ok (.if_icmp .ge 74, 3) := (op_162 nb_dX9_movesAll_409.2.2.2.2.1).trans rfl
theorem dX9_movesAll_420 : decode cX9_movesAll 420 = .ok (.aload_n 0, 1) := op_42 nb_dX9_movesAll_409.2.2.2.2.2.1
set_option maxRecDepth 100000 in
theorem dX9_movesAll_421 : decode cX9_movesAll 421 = .ok (.getfield 31, 3) := (op_180 nb_dX9_movesAll_409.2.2.2.2.2.2.1).trans rfl
set_option maxRecDepth 100000 in
theorem dX9_movesAll_424 : decode cX9_movesAll 424 = .ok (.bipush 32, 2) := (op_16 nb_dX9_movesAll_409.2.2.2.2.2.2.2.1).trans rfl
theorem dX9_movesAll_426 : decode cX9_movesAll 426 = .ok (.iload_n 1, 1) := op_27 nb_dX9_movesAll_409.2.2.2.2.2.2.2.2.1
theorem dX9_movesAll_427 : decode cX9_movesAll 427 = .ok (.imul, 1) := op_104 nb_dX9_movesAll_409.2.2.2.2.2.2.2.2.2.1
set_option maxRecDepth 100000 in
theorem dX9_movesAll_428 : decode cX9_movesAll 428 = .ok (.iload 9, 2) := (op_21 nb_dX9_movesAll_409.2.2.2.2.2.2.2.2.2.2.1).trans rfl
theorem dX9_movesAll_430 : decode cX9_movesAll 430 = .ok (.iadd, 1) := op_96 nb_dX9_movesAll_409.2.2.2.2.2.2.2.2.2.2.2.1
theorem nb_dX9_movesAll_431 : bls_w cX9_movesAll [(431, [42]), (432, [180, 0, 55]), (435, [21, 9]), (437, [46]), (438, [79]), (439, [21, 4]), (441, [153, 0, 25]), (444, [42]), (445, [180, 0, 28]), (448, [16, 32]), (450, [27]), (451, [104])] := bls_of (by decide +kernel)
theorem dX9_movesAll_431 : decode cX9_movesAll 431 = .ok (.aload_n 0, 1) := op_42 nb_dX9_movesAll_431.1
set_option maxRecDepth 100000 in
theorem dX9_movesAll_432 : decode cX9_movesAll 432 = .ok (.getfield 55, 3) := (op_180 nb_dX9_movesAll_431.2.1).trans rfl
set_option maxRecDepth 100000 in
theorem dX9_movesAll_435 : decode cX9_movesAll 435 = .ok (.iload 9, 2) := (op_21 nb_dX9_movesAll_431.2.2.1).trans rfl
theorem dX9_movesAll_437 : decode cX9_movesAll 437 = .ok (.iaload, 1) := op_46 nb_dX9_movesAll_431.2.2.2.1
theorem dX9_movesAll_438 : decode cX9_movesAll 438 = .ok (.iastore, 1) := op_79 nb_dX9_movesAll_431.2.2.2.2.1
set_option maxRecDepth 100000 in
theorem dX9_movesAll_439 : decode cX9_movesAll 439 = .ok (.iload 4, 2) := (op_21 nb_dX9_movesAll_431.2.2.2.2.2.1).trans rfl
set_option maxRecDepth 100000 in
theorem dX9_movesAll_441 : decode cX9_movesAll 441 = .ok (.ifCond .eq 25, 3) := (op_153 nb_dX9_movesAll_431.2.2.2.2.2.2.1).trans rfl
theorem dX9_movesAll_444 : decode cX9_movesAll 444 = .ok (.aload_n 0, 1) := op_42 nb_dX9_movesAll_431.2.2.2.2.2.2.2.1
set_option maxRecDepth 100000 in
theorem dX9_movesAll_445 : decode cX9_movesAll 445 = .ok (.getfield 28, 3) := (op_180 nb_dX9_movesAll_431.2.2.2.2.2.2.2.2.1).trans rfl
set_option maxRecDepth 100000 in
theorem dX9_movesAll_448 : decode cX9_movesAll 448 = .ok (.bipush 32, 2) := (op_16 nb_dX9_movesAll_431.2.2.2.2.2.2.2.2.2.1).trans rfl
theorem dX9_movesAll_450 : decode cX9_movesAll 450 = .ok (.iload_n 1, 1) := op_27 nb_dX9_movesAll_431.2.2.2.2.2.2.2.2.2.2.1
theorem dX9_movesAll_451 : decode cX9_movesAll 451 = .ok (.imul, 1) := op_104 nb_dX9_movesAll_431.2.2.2.2.2.2.2.2.2.2.2.1
theorem nb_dX9_movesAll_452 : bls_w cX9_movesAll [(452, [21, 9]), (454, [96]), (455, [42]), (456, [180, 0, 58]), (459, [21, 9]), (461, [46]), (462, [79]), (463, [167, 0, 22]), (466, [42]), (467, [180, 0, 25]), (470, [16, 32]), (472, [27])] := bls_of (by decide +kernel)
set_option maxRecDepth 100000 in
theorem dX9_movesAll_452 : decode cX9_movesAll 452 = .ok (.iload 9, 2) := (op_21 nb_dX9_movesAll_452.1).trans rfl
theorem dX9_movesAll_454 : decode cX9_movesAll 454 = .ok (.iadd, 1) := op_96 nb_dX9_movesAll_452.2.1
theorem dX9_movesAll_455 : decode cX9_movesAll 455 = .ok (.aload_n 0, 1) := op_42 nb_dX9_movesAll_452.2.2.1
set_option maxRecDepth 100000 in
theorem dX9_movesAll_456 : decode cX9_movesAll 456 = .ok (.getfield 58, 3) := (op_180 nb_dX9_movesAll_452.2.2.2.1).trans rfl
set_option maxRecDepth 100000 in
theorem dX9_movesAll_459 : decode cX9_movesAll 459 = .ok (.iload 9, 2) := (op_21 nb_dX9_movesAll_452.2.2.2.2.1).trans rfl
theorem dX9_movesAll_461 : decode cX9_movesAll 461 = .ok (.iaload, 1) := op_46 nb_dX9_movesAll_452.2.2.2.2.2.1
theorem dX9_movesAll_462 : decode cX9_movesAll 462 = .ok (.iastore, 1) := op_79 nb_dX9_movesAll_452.2.2.2.2.2.2.1
set_option maxRecDepth 100000 in
theorem dX9_movesAll_463 : decode cX9_movesAll 463 = .ok (.goto 22, 3) := (op_167 nb_dX9_movesAll_452.2.2.2.2.2.2.2.1).trans rfl
theorem dX9_movesAll_466 : decode cX9_movesAll 466 = .ok (.aload_n 0, 1) := op_42 nb_dX9_movesAll_452.2.2.2.2.2.2.2.2.1
set_option maxRecDepth 100000 in
theorem dX9_movesAll_467 : decode cX9_movesAll 467 = .ok (.getfield 25, 3) := (op_180 nb_dX9_movesAll_452.2.2.2.2.2.2.2.2.2.1).trans rfl
set_option maxRecDepth 100000 in
theorem dX9_movesAll_470 : decode cX9_movesAll 470 = .ok (.bipush 32, 2) := (op_16 nb_dX9_movesAll_452.2.2.2.2.2.2.2.2.2.2.1).trans rfl
theorem dX9_movesAll_472 : decode cX9_movesAll 472 = .ok (.iload_n 1, 1) := op_27 nb_dX9_movesAll_452.2.2.2.2.2.2.2.2.2.2.2.1
theorem nb_dX9_movesAll_473 : bls_w cX9_movesAll [(473, [104]), (474, [21, 9]), (476, [96]), (477, [42]), (478, [180, 0, 58]), (481, [21, 9]), (483, [46]), (484, [79]), (485, [132, 9, 1]), (488, [167, 255, 179]), (491, [28]), (492, [21, 7])] := bls_of (by decide +kernel)
theorem dX9_movesAll_473 : decode cX9_movesAll 473 = .ok (.imul, 1) := op_104 nb_dX9_movesAll_473.1
set_option maxRecDepth 100000 in
theorem dX9_movesAll_474 : decode cX9_movesAll 474 = .ok (.iload 9, 2) := (op_21 nb_dX9_movesAll_473.2.1).trans rfl
theorem dX9_movesAll_476 : decode cX9_movesAll 476 = .ok (.iadd, 1) := op_96 nb_dX9_movesAll_473.2.2.1
theorem dX9_movesAll_477 : decode cX9_movesAll 477 = .ok (.aload_n 0, 1) := op_42 nb_dX9_movesAll_473.2.2.2.1
set_option maxRecDepth 100000 in
theorem dX9_movesAll_478 : decode cX9_movesAll 478 = .ok (.getfield 58, 3) := (op_180 nb_dX9_movesAll_473.2.2.2.2.1).trans rfl
set_option maxRecDepth 100000 in
theorem dX9_movesAll_481 : decode cX9_movesAll 481 = .ok (.iload 9, 2) := (op_21 nb_dX9_movesAll_473.2.2.2.2.2.1).trans rfl
theorem dX9_movesAll_483 : decode cX9_movesAll 483 = .ok (.iaload, 1) := op_46 nb_dX9_movesAll_473.2.2.2.2.2.2.1
theorem dX9_movesAll_484 : decode cX9_movesAll 484 = .ok (.iastore, 1) := op_79 nb_dX9_movesAll_473.2.2.2.2.2.2.2.1
set_option maxRecDepth 100000 in
theorem dX9_movesAll_485 : decode cX9_movesAll 485 = .ok (.iinc 9 1, 3) := (op_132 nb_dX9_movesAll_473.2.2.2.2.2.2.2.2.1).trans rfl
set_option maxRecDepth 100000 in
theorem dX9_movesAll_488 : decode cX9_movesAll 488 = .ok (.goto (-77), 3) := (op_167 nb_dX9_movesAll_473.2.2.2.2.2.2.2.2.2.1).trans rfl
theorem dX9_movesAll_491 : decode cX9_movesAll 491 = .ok (.iload_n 2, 1) := op_28 nb_dX9_movesAll_473.2.2.2.2.2.2.2.2.2.2.1
set_option maxRecDepth 100000 in
theorem dX9_movesAll_492 : decode cX9_movesAll 492 = .ok (.iload 7, 2) := (op_21 nb_dX9_movesAll_473.2.2.2.2.2.2.2.2.2.2.2.1).trans rfl
theorem nb_dX9_movesAll_494 : bls_w cX9_movesAll [(494, [28]), (495, [100]), (496, [164, 0, 7]), (499, [28]), (500, [167, 0, 7]), (503, [21, 7]), (505, [28]), (506, [100]), (507, [54, 9]), (509, [21, 4]), (511, [153, 0, 14]), (514, [42])] := bls_of (by decide +kernel)
theorem dX9_movesAll_494 : decode cX9_movesAll 494 = .ok (.iload_n 2, 1) := op_28 nb_dX9_movesAll_494.1
theorem dX9_movesAll_495 : decode cX9_movesAll 495 = .ok (.isub, 1) := op_100 nb_dX9_movesAll_494.2.1
set_option maxRecDepth 100000 in
theorem dX9_movesAll_496 : decode cX9_movesAll 496 = .ok (.if_icmp .le 7, 3) := (op_164 nb_dX9_movesAll_494.2.2.1).trans rfl
theorem dX9_movesAll_499 : decode cX9_movesAll 499 = .ok (.iload_n 2, 1) := op_28 nb_dX9_movesAll_494.2.2.2.1
set_option maxRecDepth 100000 in
theorem dX9_movesAll_500 : decode cX9_movesAll 500 = .ok (.goto 7, 3) := (op_167 nb_dX9_movesAll_494.2.2.2.2.1).trans rfl
set_option maxRecDepth 100000 in
theorem dX9_movesAll_503 : decode cX9_movesAll 503 = .ok (.iload 7, 2) := (op_21 nb_dX9_movesAll_494.2.2.2.2.2.1).trans rfl
theorem dX9_movesAll_505 : decode cX9_movesAll 505 = .ok (.iload_n 2, 1) := op_28 nb_dX9_movesAll_494.2.2.2.2.2.2.1
theorem dX9_movesAll_506 : decode cX9_movesAll 506 = .ok (.isub, 1) := op_100 nb_dX9_movesAll_494.2.2.2.2.2.2.2.1
set_option maxRecDepth 100000 in
theorem dX9_movesAll_507 : decode cX9_movesAll 507 = .ok (.istore 9, 2) := (op_54 nb_dX9_movesAll_494.2.2.2.2.2.2.2.2.1).trans rfl
set_option maxRecDepth 100000 in
theorem dX9_movesAll_509 : decode cX9_movesAll 509 = .ok (.iload 4, 2) := (op_21 nb_dX9_movesAll_494.2.2.2.2.2.2.2.2.2.1).trans rfl
set_option maxRecDepth 100000 in
theorem dX9_movesAll_511 : decode cX9_movesAll 511 = .ok (.ifCond .eq 14, 3) := (op_153 nb_dX9_movesAll_494.2.2.2.2.2.2.2.2.2.2.1).trans rfl
theorem dX9_movesAll_514 : decode cX9_movesAll 514 = .ok (.aload_n 0, 1) := op_42 nb_dX9_movesAll_494.2.2.2.2.2.2.2.2.2.2.2.1
theorem nb_dX9_movesAll_515 : bls_w cX9_movesAll [(515, [180, 0, 22]), (518, [27]), (519, [21, 9]), (521, [79]), (522, [167, 0, 11]), (525, [42]), (526, [180, 0, 19]), (529, [27]), (530, [21, 9]), (532, [79]), (533, [177])] := bls_of (by decide +kernel)
set_option maxRecDepth 100000 in
theorem dX9_movesAll_515 : decode cX9_movesAll 515 = .ok (.getfield 22, 3) := (op_180 nb_dX9_movesAll_515.1).trans rfl
theorem dX9_movesAll_518 : decode cX9_movesAll 518 = .ok (.iload_n 1, 1) := op_27 nb_dX9_movesAll_515.2.1
set_option maxRecDepth 100000 in
theorem dX9_movesAll_519 : decode cX9_movesAll 519 = .ok (.iload 9, 2) := (op_21 nb_dX9_movesAll_515.2.2.1).trans rfl
theorem dX9_movesAll_521 : decode cX9_movesAll 521 = .ok (.iastore, 1) := op_79 nb_dX9_movesAll_515.2.2.2.1
set_option maxRecDepth 100000 in
theorem dX9_movesAll_522 : decode cX9_movesAll 522 = .ok (.goto 11, 3) := (op_167 nb_dX9_movesAll_515.2.2.2.2.1).trans rfl
theorem dX9_movesAll_525 : decode cX9_movesAll 525 = .ok (.aload_n 0, 1) := op_42 nb_dX9_movesAll_515.2.2.2.2.2.1
set_option maxRecDepth 100000 in
theorem dX9_movesAll_526 : decode cX9_movesAll 526 = .ok (.getfield 19, 3) := (op_180 nb_dX9_movesAll_515.2.2.2.2.2.2.1).trans rfl
theorem dX9_movesAll_529 : decode cX9_movesAll 529 = .ok (.iload_n 1, 1) := op_27 nb_dX9_movesAll_515.2.2.2.2.2.2.2.1
set_option maxRecDepth 100000 in
theorem dX9_movesAll_530 : decode cX9_movesAll 530 = .ok (.iload 9, 2) := (op_21 nb_dX9_movesAll_515.2.2.2.2.2.2.2.2.1).trans rfl
theorem dX9_movesAll_532 : decode cX9_movesAll 532 = .ok (.iastore, 1) := op_79 nb_dX9_movesAll_515.2.2.2.2.2.2.2.2.2.1
theorem dX9_movesAll_533 : decode cX9_movesAll 533 = .ok (.return_, 1) := op_177 nb_dX9_movesAll_515.2.2.2.2.2.2.2.2.2.2.1
def fX9_movesAll_154 (N : Nat) (k_118 : Int32 → Int32 → Int32 → Int32 → Int32 → Int32 → Int32 → Int32 → Int32 → Int32 → List Int32 → List Int32 → List Int32 → List Int32 → List Int32 → List Int32 → List Int32 → List Int32 → List Int32 → Option (List Int32 × List Int32 × List Int32 × List Int32 × List Int32 × List Int32 × List Int32 × List Int32 × List Int32)) (x1 : Int32) (x2 : Int32) (x4 : Int32) (x5 : Int32) (x6 : Int32) (x7 : Int32) (x8 : Int32) (x9 : Int32) (s0 : Int32) (s1 : Int32) (s2 : Int32) (s4 : Int32) (v_rowsOf : Int32) (v_columnsOf : Int32) (v_shapeRows : List Int32) (v_shapeColumns : List Int32) (v_row : List Int32) (v_column : List Int32) (v_below : List Int32) (v_face : List Int32) (v_high : List Int32) (v_to : List Int32) (v_pileSize : List Int32) : Option (List Int32 × List Int32 × List Int32 × List Int32 × List Int32 × List Int32 × List Int32 × List Int32 × List Int32) :=
    mm_bd1 (fX9_placeOf N s2 s1 s0 v_row v_column) (fun (r_21 : Int32) =>
    mm_bd1 (fX9_pileAt N s4 r_21) (fun (r_23 : Int32) =>
    mm_ck (mm_inb r_23 v_pileSize.length) (mm_nm (((mm_ig v_pileSize r_23) + (1 : Int32))) (fun (y_26 : Int32) =>
    mm_ck (mm_inb r_23 v_pileSize.length) (mm_nm (mm_is v_pileSize r_23 y_26) (fun (l_28 : List Int32) =>
    mm_nm (x9 + (1 : Int32)) (fun (y_29 : Int32) =>
    k_118 x1 x2 x4 x5 x6 x7 x8 y_29 v_rowsOf v_columnsOf v_shapeRows v_shapeColumns v_row v_column v_below v_face v_high v_to l_28)))))))

set_option maxHeartbeats 4000000 in
set_option maxRecDepth 100000 in
theorem tX9_movesAll_154 {p : Program} {l : Launch} {e : Env} {s : State} {m : MethodId} {args : Array Value} {below : List Frame} {meth : Method} {c : Code} {D : va_G} {cI cL cS cH : ClassId} {A : Nat → Prop} {d : Nat} {a : Nat → Nat} (hd : 2 ≤ d) (C0 : mm_Cx p s m args meth c RX9 cX9_movesAll 16 none D (mm_T cI cL cS cH) A) (hA : ∀ q, s.heap.size ≤ q → A q) {v_keptMany : Int32} {v_done : Int32} {v_folded : Int32} {v_wronged : Int32} {v_tapeMany : Int32} {v_textMany : Int32} {v_base : Int32} {v_at : Int32} {v_ends : Int32} {v_fault : Int32} {v_opened : Int32} {v_bentMany : Int32} {v_bentWrong : Int32} {v_moreWorn : Int32} {v_planned : Int32} {v_allWrong : Int32} {v_allWorn : Int32} {v_z : Int32} {v_wishedField : Int32} {v_isFound : Bool} {v_bestWrong : Int32} {v_bestWorn : Int32} {v_bestMany : Int32} {v_soughtBy : Int32} {v_sought : Int32} {v_soughtAt : Int32} {v_foundMany : Int32} {v_foundOrder : Int32} {v_isKept : Bool} {v_imageRows : Int32} {v_imageColumns : Int32} {v_imageFolded : Int32} {v_imageWronged : Int32} {v_bodies : Int32} {v_ran : Int32} {v_ownKind : Int32} {v_ownNumber : Int32} {v_limit : List Int32} {v_changeWas : List Int32} {v_changeIs : List Int32} {v_worn : List Int32} {v_lastBend : List Int32} {v_tape : List Int32} {v_text : List Int32} {v_names : List Int32} {v_bends : List Int32} {v_planLine : List Int32} {v_planWay : List Int32} {v_way1 : List Int32} {v_bestWay : List Int32} {v_order1 : List Int32} {v_placeIn : List Int32} {v_bodyKind : List Int32} {v_trace : List Int32} {v_shelf : List Int32} {v_many : List Int32} {v_items : List Int64} {v_carried : List Int64} {w_shapeRows : List Int32} {w_shapeColumns : List Int32} {w_row : List Int32} {w_column : List Int32} {w_below : List Int32} {w_face : List Int32} {w_high : List Int32} {w_to : List Int32} {w_pileSize : List Int32} (N : Nat) {k_118 : Int32 → Int32 → Int32 → Int32 → Int32 → Int32 → Int32 → Int32 → Int32 → Int32 → List Int32 → List Int32 → List Int32 → List Int32 → List Int32 → List Int32 → List Int32 → List Int32 → List Int32 → Option (List Int32 × List Int32 × List Int32 × List Int32 × List Int32 × List Int32 × List Int32 × List Int32 × List Int32)} (hk_118 : ∀ (x1 : Int32) (x2 : Int32) (x4 : Int32) (x5 : Int32) (x6 : Int32) (x7 : Int32) (x8 : Int32) (x9 : Int32) (v_rowsOf : Int32) (v_columnsOf : Int32) (v_shapeRows : List Int32) (v_shapeColumns : List Int32) (v_row : List Int32) (v_column : List Int32) (v_below : List Int32) (v_face : List Int32) (v_high : List Int32) (v_to : List Int32) (v_pileSize : List Int32) (H : Heap) (locs : List Loc) (ls : Array Slot), k_118 x1 x2 x4 x5 x6 x7 x8 x9 v_rowsOf v_columnsOf v_shapeRows v_shapeColumns v_row v_column v_below v_face v_high v_to v_pileSize = some (w_shapeRows, w_shapeColumns, w_row, w_column, w_below, w_face, w_high, w_to, w_pileSize) → va_P D mm_cl (wd_X9 cI cL cS cH a v_keptMany v_done v_rowsOf v_columnsOf v_folded v_wronged v_tapeMany v_textMany v_base v_at v_ends v_fault v_opened v_bentMany v_bentWrong v_moreWorn v_planned v_allWrong v_allWorn v_z v_wishedField v_isFound v_bestWrong v_bestWorn v_bestMany v_soughtBy v_sought v_soughtAt v_foundMany v_foundOrder v_isKept v_imageRows v_imageColumns v_imageFolded v_imageWronged v_bodies v_ran v_ownKind v_ownNumber v_limit v_changeWas v_changeIs v_shapeRows v_shapeColumns v_row v_column v_below v_face v_worn v_lastBend v_tape v_text v_names v_bends v_high v_to v_pileSize v_planLine v_planWay v_way1 v_bestWay v_order1 v_placeIn v_bodyKind v_trace v_shelf v_many v_items v_carried) H → va_D A (wd_X9 cI cL cS cH a v_keptMany v_done v_rowsOf v_columnsOf v_folded v_wronged v_tapeMany v_textMany v_base v_at v_ends v_fault v_opened v_bentMany v_bentWrong v_moreWorn v_planned v_allWrong v_allWorn v_z v_wishedField v_isFound v_bestWrong v_bestWorn v_bestMany v_soughtBy v_sought v_soughtAt v_foundMany v_foundOrder v_isKept v_imageRows v_imageColumns v_imageFolded v_imageWronged v_bodies v_ran v_ownKind v_ownNumber v_limit v_changeWas v_changeIs v_shapeRows v_shapeColumns v_row v_column v_below v_face v_worn v_lastBend v_tape v_text v_names v_bends v_high v_to v_pileSize v_planLine v_planWay v_way1 v_bestWay v_order1 v_placeIn v_bodyKind v_trace v_shelf v_many v_items v_carried) → va_S A s.heap H locs → lv_has ls 16 [(0, .ref (a 0)), (1, .int x1), (2, .int x2), (4, .int x4), (5, .int x5), (6, .int x6), (7, .int x7), (8, .int x8), (9, .int x9)] → W p l e (mm_rr d) s m args below meth c H locs 0 0 (mm_Z below D A (wd_X9 cI cL cS cH a v_keptMany v_done v_rowsOf v_columnsOf v_folded v_wronged v_tapeMany v_textMany v_base v_at v_ends v_fault v_opened v_bentMany v_bentWrong v_moreWorn v_planned v_allWrong v_allWorn v_z v_wishedField v_isFound v_bestWrong v_bestWorn v_bestMany v_soughtBy v_sought v_soughtAt v_foundMany v_foundOrder v_isKept v_imageRows v_imageColumns v_imageFolded v_imageWronged v_bodies v_ran v_ownKind v_ownNumber v_limit v_changeWas v_changeIs w_shapeRows w_shapeColumns w_row w_column w_below w_face v_worn v_lastBend v_tape v_text v_names v_bends w_high w_to w_pileSize v_planLine v_planWay v_way1 v_bestWay v_order1 v_placeIn v_bodyKind v_trace v_shelf v_many v_items v_carried) none args s) (F0 m 118 ls [])) : ∀ (x1 : Int32) (x2 : Int32) (x4 : Int32) (x5 : Int32) (x6 : Int32) (x7 : Int32) (x8 : Int32) (x9 : Int32) (s0 : Int32) (s1 : Int32) (s2 : Int32) (s4 : Int32) (v_rowsOf : Int32) (v_columnsOf : Int32) (v_shapeRows : List Int32) (v_shapeColumns : List Int32) (v_row : List Int32) (v_column : List Int32) (v_below : List Int32) (v_face : List Int32) (v_high : List Int32) (v_to : List Int32) (v_pileSize : List Int32) (H : Heap) (locs : List Loc) (ls : Array Slot), fX9_movesAll_154 N k_118 x1 x2 x4 x5 x6 x7 x8 x9 s0 s1 s2 s4 v_rowsOf v_columnsOf v_shapeRows v_shapeColumns v_row v_column v_below v_face v_high v_to v_pileSize = some (w_shapeRows, w_shapeColumns, w_row, w_column, w_below, w_face, w_high, w_to, w_pileSize) → va_P D mm_cl (wd_X9 cI cL cS cH a v_keptMany v_done v_rowsOf v_columnsOf v_folded v_wronged v_tapeMany v_textMany v_base v_at v_ends v_fault v_opened v_bentMany v_bentWrong v_moreWorn v_planned v_allWrong v_allWorn v_z v_wishedField v_isFound v_bestWrong v_bestWorn v_bestMany v_soughtBy v_sought v_soughtAt v_foundMany v_foundOrder v_isKept v_imageRows v_imageColumns v_imageFolded v_imageWronged v_bodies v_ran v_ownKind v_ownNumber v_limit v_changeWas v_changeIs v_shapeRows v_shapeColumns v_row v_column v_below v_face v_worn v_lastBend v_tape v_text v_names v_bends v_high v_to v_pileSize v_planLine v_planWay v_way1 v_bestWay v_order1 v_placeIn v_bodyKind v_trace v_shelf v_many v_items v_carried) H → va_D A (wd_X9 cI cL cS cH a v_keptMany v_done v_rowsOf v_columnsOf v_folded v_wronged v_tapeMany v_textMany v_base v_at v_ends v_fault v_opened v_bentMany v_bentWrong v_moreWorn v_planned v_allWrong v_allWorn v_z v_wishedField v_isFound v_bestWrong v_bestWorn v_bestMany v_soughtBy v_sought v_soughtAt v_foundMany v_foundOrder v_isKept v_imageRows v_imageColumns v_imageFolded v_imageWronged v_bodies v_ran v_ownKind v_ownNumber v_limit v_changeWas v_changeIs v_shapeRows v_shapeColumns v_row v_column v_below v_face v_worn v_lastBend v_tape v_text v_names v_bends v_high v_to v_pileSize v_planLine v_planWay v_way1 v_bestWay v_order1 v_placeIn v_bodyKind v_trace v_shelf v_many v_items v_carried) → va_S A s.heap H locs → lv_has ls 16 [(0, .ref (a 0)), (1, .int x1), (2, .int x2), (4, .int x4), (5, .int x5), (6, .int x6), (7, .int x7), (8, .int x8), (9, .int x9)] → W p l e (mm_rr d) s m args below meth c H locs 0 0 (mm_Z below D A (wd_X9 cI cL cS cH a v_keptMany v_done v_rowsOf v_columnsOf v_folded v_wronged v_tapeMany v_textMany v_base v_at v_ends v_fault v_opened v_bentMany v_bentWrong v_moreWorn v_planned v_allWrong v_allWorn v_z v_wishedField v_isFound v_bestWrong v_bestWorn v_bestMany v_soughtBy v_sought v_soughtAt v_foundMany v_foundOrder v_isKept v_imageRows v_imageColumns v_imageFolded v_imageWronged v_bodies v_ran v_ownKind v_ownNumber v_limit v_changeWas v_changeIs w_shapeRows w_shapeColumns w_row w_column w_below w_face v_worn v_lastBend v_tape v_text v_names v_bends w_high w_to w_pileSize v_planLine v_planWay v_way1 v_bestWay v_order1 v_placeIn v_bodyKind v_trace v_shelf v_many v_items v_carried) none args s) (F0 m 154 ls [.int s0, .int s1, .int s2, .ref (a 0), .int s4, .ref (a 18)]) := by
  obtain ⟨hx, hb, hml, hown, hts, hr, hlocks, hK, hSt⟩ := id C0
  intro x1 x2 x4 x5 x6 x7 x8 x9 s0 s1 s2 s4 v_rowsOf v_columnsOf v_shapeRows v_shapeColumns v_row v_column v_below v_face v_high v_to v_pileSize H locs ls hf hP hD hS hl
  unfold fX9_movesAll_154 at hf
  obtain ⟨r_21, hc_22, hf⟩ := mm_bd1s hf
  refine mm_callVF (q0 := 0) (ci := 9) (rest := [.int s4, .ref (a 18)]) C0 lk_X9_204 (ctX9_placeOf (a := a) (d := d - 1) (by omega) hc_22) (by omega) rfl hl.1 rfl (mm_cat rfl) dX9_movesAll_154 hP hD hA hS rfl rfl (fun H locs hP hD hS => ?_)
  refine W.eq (g2 := F0 m 157 ls [.int r_21, .int s4, .ref (a 18)]) rfl ?_
  obtain ⟨r_23, hc_24, hf⟩ := mm_bd1s hf
  refine mm_callS0 (rest := [.ref (a 18)]) C0 lk_X9_228 (ctX9_pileAt (d := d - 1) (by omega) hc_24) (by omega) rfl hl.1 rfl (mm_cat rfl) dX9_movesAll_157 hP hD hA hS (fun H locs hP hS => ?_)
  refine W.eq (g2 := F0 m 160 ls [.int r_23, .ref (a 18)]) rfl ?_
  refine lv_dup2_11 hx hb dX9_movesAll_160 rfl rfl ?_
  obtain ⟨h_25, hf⟩ := mm_cks hf
  refine mm_iald C0 hP 18 rfl h_25 dX9_movesAll_161 ?_
  refine lv_iconst (v := 1) hx hb dX9_movesAll_162 (by decide) ?_
  refine lv_iadd hx hb dX9_movesAll_163 ?_
  refine lv_topi (fun y_26 ey_26 => ?_)
  have hf := mm_nms hf ey_26
  obtain ⟨h_27, hf⟩ := mm_cks hf
  refine mm_iast C0 hP hD hS 18 rfl h_27 dX9_movesAll_164 (w2 := (wd_X9 cI cL cS cH a v_keptMany v_done v_rowsOf v_columnsOf v_folded v_wronged v_tapeMany v_textMany v_base v_at v_ends v_fault v_opened v_bentMany v_bentWrong v_moreWorn v_planned v_allWrong v_allWorn v_z v_wishedField v_isFound v_bestWrong v_bestWorn v_bestMany v_soughtBy v_sought v_soughtAt v_foundMany v_foundOrder v_isKept v_imageRows v_imageColumns v_imageFolded v_imageWronged v_bodies v_ran v_ownKind v_ownNumber v_limit v_changeWas v_changeIs v_shapeRows v_shapeColumns v_row v_column v_below v_face v_worn v_lastBend v_tape v_text v_names v_bends v_high v_to (mm_is v_pileSize r_23 y_26) v_planLine v_planWay v_way1 v_bestWay v_order1 v_placeIn v_bodyKind v_trace v_shelf v_many v_items v_carried)) rfl (fun H locs hP hD hS => ?_)
  generalize el_28 : (mm_is v_pileSize r_23 y_26) = l_28 at hP hD
  have hf := mm_nms hf el_28.symm
  obtain ⟨y_29, ey_29⟩ : ∃ z : Int32, z = x9 + (1 : Int32) := ⟨_, rfl⟩
  have hf := mm_nms hf ey_29
  refine lv_iinc (v := y_29) (lv' := [(9, .int y_29), (0, .ref (a 0)), (1, .int x1), (2, .int x2), (4, .int x4), (5, .int x5), (6, .int x6), (7, .int x7), (8, .int x8)]) hx hb dX9_movesAll_165 hl (k := 8) rfl (by rw [ey_29]; rfl) (by decide) rfl (fun ls hl => ?_)
  refine lv_goto (tgt := 118) hx hb dX9_movesAll_168 (by decide) ?_
  exact hk_118 _ _ _ _ _ _ _ _ _ _ _ _ _ _ _ _ _ _ _ H locs ls hf hP hD hS (lv_sub hl [1, 2, 3, 4, 5, 6, 7, 8, 0] rfl)

def fX9_movesAll_402 (N : Nat) (k_174 : Int32 → Int32 → Int32 → Int32 → Int32 → Int32 → Int32 → Int32 → Int32 → Int32 → List Int32 → List Int32 → List Int32 → List Int32 → List Int32 → List Int32 → List Int32 → List Int32 → List Int32 → Option (List Int32 × List Int32 × List Int32 × List Int32 × List Int32 × List Int32 × List Int32 × List Int32 × List Int32)) (x1 : Int32) (x2 : Int32) (x4 : Int32) (x5 : Int32) (x6 : Int32) (x7 : Int32) (x8 : Int32) (x9 : Int32) (v_rowsOf : Int32) (v_columnsOf : Int32) (v_shapeRows : List Int32) (v_shapeColumns : List Int32) (v_row : List Int32) (v_column : List Int32) (v_below : List Int32) (v_face : List Int32) (v_high : List Int32) (v_to : List Int32) (v_pileSize : List Int32) : Option (List Int32 × List Int32 × List Int32 × List Int32 × List Int32 × List Int32 × List Int32 × List Int32 × List Int32) :=
    mm_nm (x9 + (1 : Int32)) (fun (y_66 : Int32) =>
    k_174 x1 x2 x4 x5 x6 x7 x8 y_66 v_rowsOf v_columnsOf v_shapeRows v_shapeColumns v_row v_column v_below v_face v_high v_to v_pileSize)

set_option maxHeartbeats 4000000 in
set_option maxRecDepth 100000 in
theorem tX9_movesAll_402 {p : Program} {l : Launch} {e : Env} {s : State} {m : MethodId} {args : Array Value} {below : List Frame} {meth : Method} {c : Code} {D : va_G} {cI cL cS cH : ClassId} {A : Nat → Prop} {d : Nat} {a : Nat → Nat} (hd : 2 ≤ d) (C0 : mm_Cx p s m args meth c RX9 cX9_movesAll 16 none D (mm_T cI cL cS cH) A) (hA : ∀ q, s.heap.size ≤ q → A q) {v_keptMany : Int32} {v_done : Int32} {v_folded : Int32} {v_wronged : Int32} {v_tapeMany : Int32} {v_textMany : Int32} {v_base : Int32} {v_at : Int32} {v_ends : Int32} {v_fault : Int32} {v_opened : Int32} {v_bentMany : Int32} {v_bentWrong : Int32} {v_moreWorn : Int32} {v_planned : Int32} {v_allWrong : Int32} {v_allWorn : Int32} {v_z : Int32} {v_wishedField : Int32} {v_isFound : Bool} {v_bestWrong : Int32} {v_bestWorn : Int32} {v_bestMany : Int32} {v_soughtBy : Int32} {v_sought : Int32} {v_soughtAt : Int32} {v_foundMany : Int32} {v_foundOrder : Int32} {v_isKept : Bool} {v_imageRows : Int32} {v_imageColumns : Int32} {v_imageFolded : Int32} {v_imageWronged : Int32} {v_bodies : Int32} {v_ran : Int32} {v_ownKind : Int32} {v_ownNumber : Int32} {v_limit : List Int32} {v_changeWas : List Int32} {v_changeIs : List Int32} {v_worn : List Int32} {v_lastBend : List Int32} {v_tape : List Int32} {v_text : List Int32} {v_names : List Int32} {v_bends : List Int32} {v_planLine : List Int32} {v_planWay : List Int32} {v_way1 : List Int32} {v_bestWay : List Int32} {v_order1 : List Int32} {v_placeIn : List Int32} {v_bodyKind : List Int32} {v_trace : List Int32} {v_shelf : List Int32} {v_many : List Int32} {v_items : List Int64} {v_carried : List Int64} {w_shapeRows : List Int32} {w_shapeColumns : List Int32} {w_row : List Int32} {w_column : List Int32} {w_below : List Int32} {w_face : List Int32} {w_high : List Int32} {w_to : List Int32} {w_pileSize : List Int32} (N : Nat) {k_174 : Int32 → Int32 → Int32 → Int32 → Int32 → Int32 → Int32 → Int32 → Int32 → Int32 → List Int32 → List Int32 → List Int32 → List Int32 → List Int32 → List Int32 → List Int32 → List Int32 → List Int32 → Option (List Int32 × List Int32 × List Int32 × List Int32 × List Int32 × List Int32 × List Int32 × List Int32 × List Int32)} (hk_174 : ∀ (x1 : Int32) (x2 : Int32) (x4 : Int32) (x5 : Int32) (x6 : Int32) (x7 : Int32) (x8 : Int32) (x9 : Int32) (v_rowsOf : Int32) (v_columnsOf : Int32) (v_shapeRows : List Int32) (v_shapeColumns : List Int32) (v_row : List Int32) (v_column : List Int32) (v_below : List Int32) (v_face : List Int32) (v_high : List Int32) (v_to : List Int32) (v_pileSize : List Int32) (H : Heap) (locs : List Loc) (ls : Array Slot), k_174 x1 x2 x4 x5 x6 x7 x8 x9 v_rowsOf v_columnsOf v_shapeRows v_shapeColumns v_row v_column v_below v_face v_high v_to v_pileSize = some (w_shapeRows, w_shapeColumns, w_row, w_column, w_below, w_face, w_high, w_to, w_pileSize) → va_P D mm_cl (wd_X9 cI cL cS cH a v_keptMany v_done v_rowsOf v_columnsOf v_folded v_wronged v_tapeMany v_textMany v_base v_at v_ends v_fault v_opened v_bentMany v_bentWrong v_moreWorn v_planned v_allWrong v_allWorn v_z v_wishedField v_isFound v_bestWrong v_bestWorn v_bestMany v_soughtBy v_sought v_soughtAt v_foundMany v_foundOrder v_isKept v_imageRows v_imageColumns v_imageFolded v_imageWronged v_bodies v_ran v_ownKind v_ownNumber v_limit v_changeWas v_changeIs v_shapeRows v_shapeColumns v_row v_column v_below v_face v_worn v_lastBend v_tape v_text v_names v_bends v_high v_to v_pileSize v_planLine v_planWay v_way1 v_bestWay v_order1 v_placeIn v_bodyKind v_trace v_shelf v_many v_items v_carried) H → va_D A (wd_X9 cI cL cS cH a v_keptMany v_done v_rowsOf v_columnsOf v_folded v_wronged v_tapeMany v_textMany v_base v_at v_ends v_fault v_opened v_bentMany v_bentWrong v_moreWorn v_planned v_allWrong v_allWorn v_z v_wishedField v_isFound v_bestWrong v_bestWorn v_bestMany v_soughtBy v_sought v_soughtAt v_foundMany v_foundOrder v_isKept v_imageRows v_imageColumns v_imageFolded v_imageWronged v_bodies v_ran v_ownKind v_ownNumber v_limit v_changeWas v_changeIs v_shapeRows v_shapeColumns v_row v_column v_below v_face v_worn v_lastBend v_tape v_text v_names v_bends v_high v_to v_pileSize v_planLine v_planWay v_way1 v_bestWay v_order1 v_placeIn v_bodyKind v_trace v_shelf v_many v_items v_carried) → va_S A s.heap H locs → lv_has ls 16 [(0, .ref (a 0)), (1, .int x1), (2, .int x2), (4, .int x4), (5, .int x5), (6, .int x6), (7, .int x7), (8, .int x8), (9, .int x9)] → W p l e (mm_rr d) s m args below meth c H locs 0 0 (mm_Z below D A (wd_X9 cI cL cS cH a v_keptMany v_done v_rowsOf v_columnsOf v_folded v_wronged v_tapeMany v_textMany v_base v_at v_ends v_fault v_opened v_bentMany v_bentWrong v_moreWorn v_planned v_allWrong v_allWorn v_z v_wishedField v_isFound v_bestWrong v_bestWorn v_bestMany v_soughtBy v_sought v_soughtAt v_foundMany v_foundOrder v_isKept v_imageRows v_imageColumns v_imageFolded v_imageWronged v_bodies v_ran v_ownKind v_ownNumber v_limit v_changeWas v_changeIs w_shapeRows w_shapeColumns w_row w_column w_below w_face v_worn v_lastBend v_tape v_text v_names v_bends w_high w_to w_pileSize v_planLine v_planWay v_way1 v_bestWay v_order1 v_placeIn v_bodyKind v_trace v_shelf v_many v_items v_carried) none args s) (F0 m 174 ls [])) : ∀ (x1 : Int32) (x2 : Int32) (x4 : Int32) (x5 : Int32) (x6 : Int32) (x7 : Int32) (x8 : Int32) (x9 : Int32) (v_rowsOf : Int32) (v_columnsOf : Int32) (v_shapeRows : List Int32) (v_shapeColumns : List Int32) (v_row : List Int32) (v_column : List Int32) (v_below : List Int32) (v_face : List Int32) (v_high : List Int32) (v_to : List Int32) (v_pileSize : List Int32) (H : Heap) (locs : List Loc) (ls : Array Slot), fX9_movesAll_402 N k_174 x1 x2 x4 x5 x6 x7 x8 x9 v_rowsOf v_columnsOf v_shapeRows v_shapeColumns v_row v_column v_below v_face v_high v_to v_pileSize = some (w_shapeRows, w_shapeColumns, w_row, w_column, w_below, w_face, w_high, w_to, w_pileSize) → va_P D mm_cl (wd_X9 cI cL cS cH a v_keptMany v_done v_rowsOf v_columnsOf v_folded v_wronged v_tapeMany v_textMany v_base v_at v_ends v_fault v_opened v_bentMany v_bentWrong v_moreWorn v_planned v_allWrong v_allWorn v_z v_wishedField v_isFound v_bestWrong v_bestWorn v_bestMany v_soughtBy v_sought v_soughtAt v_foundMany v_foundOrder v_isKept v_imageRows v_imageColumns v_imageFolded v_imageWronged v_bodies v_ran v_ownKind v_ownNumber v_limit v_changeWas v_changeIs v_shapeRows v_shapeColumns v_row v_column v_below v_face v_worn v_lastBend v_tape v_text v_names v_bends v_high v_to v_pileSize v_planLine v_planWay v_way1 v_bestWay v_order1 v_placeIn v_bodyKind v_trace v_shelf v_many v_items v_carried) H → va_D A (wd_X9 cI cL cS cH a v_keptMany v_done v_rowsOf v_columnsOf v_folded v_wronged v_tapeMany v_textMany v_base v_at v_ends v_fault v_opened v_bentMany v_bentWrong v_moreWorn v_planned v_allWrong v_allWorn v_z v_wishedField v_isFound v_bestWrong v_bestWorn v_bestMany v_soughtBy v_sought v_soughtAt v_foundMany v_foundOrder v_isKept v_imageRows v_imageColumns v_imageFolded v_imageWronged v_bodies v_ran v_ownKind v_ownNumber v_limit v_changeWas v_changeIs v_shapeRows v_shapeColumns v_row v_column v_below v_face v_worn v_lastBend v_tape v_text v_names v_bends v_high v_to v_pileSize v_planLine v_planWay v_way1 v_bestWay v_order1 v_placeIn v_bodyKind v_trace v_shelf v_many v_items v_carried) → va_S A s.heap H locs → lv_has ls 16 [(0, .ref (a 0)), (1, .int x1), (2, .int x2), (4, .int x4), (5, .int x5), (6, .int x6), (7, .int x7), (8, .int x8), (9, .int x9)] → W p l e (mm_rr d) s m args below meth c H locs 0 0 (mm_Z below D A (wd_X9 cI cL cS cH a v_keptMany v_done v_rowsOf v_columnsOf v_folded v_wronged v_tapeMany v_textMany v_base v_at v_ends v_fault v_opened v_bentMany v_bentWrong v_moreWorn v_planned v_allWrong v_allWorn v_z v_wishedField v_isFound v_bestWrong v_bestWorn v_bestMany v_soughtBy v_sought v_soughtAt v_foundMany v_foundOrder v_isKept v_imageRows v_imageColumns v_imageFolded v_imageWronged v_bodies v_ran v_ownKind v_ownNumber v_limit v_changeWas v_changeIs w_shapeRows w_shapeColumns w_row w_column w_below w_face v_worn v_lastBend v_tape v_text v_names v_bends w_high w_to w_pileSize v_planLine v_planWay v_way1 v_bestWay v_order1 v_placeIn v_bodyKind v_trace v_shelf v_many v_items v_carried) none args s) (F0 m 402 ls []) := by
  obtain ⟨hx, hb, hml, hown, hts, hr, hlocks, hK, hSt⟩ := id C0
  intro x1 x2 x4 x5 x6 x7 x8 x9 v_rowsOf v_columnsOf v_shapeRows v_shapeColumns v_row v_column v_below v_face v_high v_to v_pileSize H locs ls hf hP hD hS hl
  unfold fX9_movesAll_402 at hf
  obtain ⟨y_66, ey_66⟩ : ∃ z : Int32, z = x9 + (1 : Int32) := ⟨_, rfl⟩
  have hf := mm_nms hf ey_66
  refine lv_iinc (v := y_66) (lv' := [(9, .int y_66), (0, .ref (a 0)), (1, .int x1), (2, .int x2), (4, .int x4), (5, .int x5), (6, .int x6), (7, .int x7), (8, .int x8)]) hx hb dX9_movesAll_402 hl (k := 8) rfl (by rw [ey_66]; rfl) (by decide) rfl (fun ls hl => ?_)
  refine lv_goto (tgt := 174) hx hb dX9_movesAll_405 (by decide) ?_
  exact hk_174 _ _ _ _ _ _ _ _ _ _ _ _ _ _ _ _ _ _ _ H locs ls hf hP hD hS (lv_sub hl [1, 2, 3, 4, 5, 6, 7, 8, 0] rfl)

def fX9_movesAll_326 (N : Nat) (k_174 : Int32 → Int32 → Int32 → Int32 → Int32 → Int32 → Int32 → Int32 → Int32 → Int32 → List Int32 → List Int32 → List Int32 → List Int32 → List Int32 → List Int32 → List Int32 → List Int32 → List Int32 → Option (List Int32 × List Int32 × List Int32 × List Int32 × List Int32 × List Int32 × List Int32 × List Int32 × List Int32)) (x1 : Int32) (x2 : Int32) (x4 : Int32) (x5 : Int32) (x6 : Int32) (x7 : Int32) (x8 : Int32) (x9 : Int32) (x10 : Int32) (x13 : Int32) (s0 : Int32) (s1 : Int32) (v_rowsOf : Int32) (v_columnsOf : Int32) (v_shapeRows : List Int32) (v_shapeColumns : List Int32) (v_row : List Int32) (v_column : List Int32) (v_below : List Int32) (v_face : List Int32) (v_high : List Int32) (v_to : List Int32) (v_pileSize : List Int32) : Option (List Int32 × List Int32 × List Int32 × List Int32 × List Int32 × List Int32 × List Int32 × List Int32 × List Int32) :=
    mm_ck (mm_inb s1 v_high.length) (mm_nm (mm_is v_high s1 s0) (fun (l_58 : List Int32) =>
    mm_ck (mm_inb x10 v_face.length) (mm_nm (((1 : Int32) - (mm_ig v_face x10))) (fun (y_60 : Int32) =>
    mm_ck (mm_inb x10 v_face.length) (mm_nm (mm_is v_face x10 y_60) (fun (l_62 : List Int32) =>
    mm_nm ((x13 - x8)) (fun (y_63 : Int32) =>
    mm_ck (mm_inb x9 v_to.length) (mm_nm (mm_is v_to x9 y_63) (fun (l_65 : List Int32) =>
    fX9_movesAll_402 N k_174 x1 x2 x4 x5 x6 x7 x8 x9 v_rowsOf v_columnsOf v_shapeRows v_shapeColumns v_row v_column v_below l_62 l_58 l_65 v_pileSize)))))))))

set_option maxHeartbeats 4000000 in
set_option maxRecDepth 100000 in
theorem tX9_movesAll_326 {p : Program} {l : Launch} {e : Env} {s : State} {m : MethodId} {args : Array Value} {below : List Frame} {meth : Method} {c : Code} {D : va_G} {cI cL cS cH : ClassId} {A : Nat → Prop} {d : Nat} {a : Nat → Nat} (hd : 2 ≤ d) (C0 : mm_Cx p s m args meth c RX9 cX9_movesAll 16 none D (mm_T cI cL cS cH) A) (hA : ∀ q, s.heap.size ≤ q → A q) {v_keptMany : Int32} {v_done : Int32} {v_folded : Int32} {v_wronged : Int32} {v_tapeMany : Int32} {v_textMany : Int32} {v_base : Int32} {v_at : Int32} {v_ends : Int32} {v_fault : Int32} {v_opened : Int32} {v_bentMany : Int32} {v_bentWrong : Int32} {v_moreWorn : Int32} {v_planned : Int32} {v_allWrong : Int32} {v_allWorn : Int32} {v_z : Int32} {v_wishedField : Int32} {v_isFound : Bool} {v_bestWrong : Int32} {v_bestWorn : Int32} {v_bestMany : Int32} {v_soughtBy : Int32} {v_sought : Int32} {v_soughtAt : Int32} {v_foundMany : Int32} {v_foundOrder : Int32} {v_isKept : Bool} {v_imageRows : Int32} {v_imageColumns : Int32} {v_imageFolded : Int32} {v_imageWronged : Int32} {v_bodies : Int32} {v_ran : Int32} {v_ownKind : Int32} {v_ownNumber : Int32} {v_limit : List Int32} {v_changeWas : List Int32} {v_changeIs : List Int32} {v_worn : List Int32} {v_lastBend : List Int32} {v_tape : List Int32} {v_text : List Int32} {v_names : List Int32} {v_bends : List Int32} {v_planLine : List Int32} {v_planWay : List Int32} {v_way1 : List Int32} {v_bestWay : List Int32} {v_order1 : List Int32} {v_placeIn : List Int32} {v_bodyKind : List Int32} {v_trace : List Int32} {v_shelf : List Int32} {v_many : List Int32} {v_items : List Int64} {v_carried : List Int64} {w_shapeRows : List Int32} {w_shapeColumns : List Int32} {w_row : List Int32} {w_column : List Int32} {w_below : List Int32} {w_face : List Int32} {w_high : List Int32} {w_to : List Int32} {w_pileSize : List Int32} (N : Nat) {k_174 : Int32 → Int32 → Int32 → Int32 → Int32 → Int32 → Int32 → Int32 → Int32 → Int32 → List Int32 → List Int32 → List Int32 → List Int32 → List Int32 → List Int32 → List Int32 → List Int32 → List Int32 → Option (List Int32 × List Int32 × List Int32 × List Int32 × List Int32 × List Int32 × List Int32 × List Int32 × List Int32)} (hk_174 : ∀ (x1 : Int32) (x2 : Int32) (x4 : Int32) (x5 : Int32) (x6 : Int32) (x7 : Int32) (x8 : Int32) (x9 : Int32) (v_rowsOf : Int32) (v_columnsOf : Int32) (v_shapeRows : List Int32) (v_shapeColumns : List Int32) (v_row : List Int32) (v_column : List Int32) (v_below : List Int32) (v_face : List Int32) (v_high : List Int32) (v_to : List Int32) (v_pileSize : List Int32) (H : Heap) (locs : List Loc) (ls : Array Slot), k_174 x1 x2 x4 x5 x6 x7 x8 x9 v_rowsOf v_columnsOf v_shapeRows v_shapeColumns v_row v_column v_below v_face v_high v_to v_pileSize = some (w_shapeRows, w_shapeColumns, w_row, w_column, w_below, w_face, w_high, w_to, w_pileSize) → va_P D mm_cl (wd_X9 cI cL cS cH a v_keptMany v_done v_rowsOf v_columnsOf v_folded v_wronged v_tapeMany v_textMany v_base v_at v_ends v_fault v_opened v_bentMany v_bentWrong v_moreWorn v_planned v_allWrong v_allWorn v_z v_wishedField v_isFound v_bestWrong v_bestWorn v_bestMany v_soughtBy v_sought v_soughtAt v_foundMany v_foundOrder v_isKept v_imageRows v_imageColumns v_imageFolded v_imageWronged v_bodies v_ran v_ownKind v_ownNumber v_limit v_changeWas v_changeIs v_shapeRows v_shapeColumns v_row v_column v_below v_face v_worn v_lastBend v_tape v_text v_names v_bends v_high v_to v_pileSize v_planLine v_planWay v_way1 v_bestWay v_order1 v_placeIn v_bodyKind v_trace v_shelf v_many v_items v_carried) H → va_D A (wd_X9 cI cL cS cH a v_keptMany v_done v_rowsOf v_columnsOf v_folded v_wronged v_tapeMany v_textMany v_base v_at v_ends v_fault v_opened v_bentMany v_bentWrong v_moreWorn v_planned v_allWrong v_allWorn v_z v_wishedField v_isFound v_bestWrong v_bestWorn v_bestMany v_soughtBy v_sought v_soughtAt v_foundMany v_foundOrder v_isKept v_imageRows v_imageColumns v_imageFolded v_imageWronged v_bodies v_ran v_ownKind v_ownNumber v_limit v_changeWas v_changeIs v_shapeRows v_shapeColumns v_row v_column v_below v_face v_worn v_lastBend v_tape v_text v_names v_bends v_high v_to v_pileSize v_planLine v_planWay v_way1 v_bestWay v_order1 v_placeIn v_bodyKind v_trace v_shelf v_many v_items v_carried) → va_S A s.heap H locs → lv_has ls 16 [(0, .ref (a 0)), (1, .int x1), (2, .int x2), (4, .int x4), (5, .int x5), (6, .int x6), (7, .int x7), (8, .int x8), (9, .int x9)] → W p l e (mm_rr d) s m args below meth c H locs 0 0 (mm_Z below D A (wd_X9 cI cL cS cH a v_keptMany v_done v_rowsOf v_columnsOf v_folded v_wronged v_tapeMany v_textMany v_base v_at v_ends v_fault v_opened v_bentMany v_bentWrong v_moreWorn v_planned v_allWrong v_allWorn v_z v_wishedField v_isFound v_bestWrong v_bestWorn v_bestMany v_soughtBy v_sought v_soughtAt v_foundMany v_foundOrder v_isKept v_imageRows v_imageColumns v_imageFolded v_imageWronged v_bodies v_ran v_ownKind v_ownNumber v_limit v_changeWas v_changeIs w_shapeRows w_shapeColumns w_row w_column w_below w_face v_worn v_lastBend v_tape v_text v_names v_bends w_high w_to w_pileSize v_planLine v_planWay v_way1 v_bestWay v_order1 v_placeIn v_bodyKind v_trace v_shelf v_many v_items v_carried) none args s) (F0 m 174 ls [])) : ∀ (x1 : Int32) (x2 : Int32) (x4 : Int32) (x5 : Int32) (x6 : Int32) (x7 : Int32) (x8 : Int32) (x9 : Int32) (x10 : Int32) (x13 : Int32) (s0 : Int32) (s1 : Int32) (v_rowsOf : Int32) (v_columnsOf : Int32) (v_shapeRows : List Int32) (v_shapeColumns : List Int32) (v_row : List Int32) (v_column : List Int32) (v_below : List Int32) (v_face : List Int32) (v_high : List Int32) (v_to : List Int32) (v_pileSize : List Int32) (H : Heap) (locs : List Loc) (ls : Array Slot), fX9_movesAll_326 N k_174 x1 x2 x4 x5 x6 x7 x8 x9 x10 x13 s0 s1 v_rowsOf v_columnsOf v_shapeRows v_shapeColumns v_row v_column v_below v_face v_high v_to v_pileSize = some (w_shapeRows, w_shapeColumns, w_row, w_column, w_below, w_face, w_high, w_to, w_pileSize) → va_P D mm_cl (wd_X9 cI cL cS cH a v_keptMany v_done v_rowsOf v_columnsOf v_folded v_wronged v_tapeMany v_textMany v_base v_at v_ends v_fault v_opened v_bentMany v_bentWrong v_moreWorn v_planned v_allWrong v_allWorn v_z v_wishedField v_isFound v_bestWrong v_bestWorn v_bestMany v_soughtBy v_sought v_soughtAt v_foundMany v_foundOrder v_isKept v_imageRows v_imageColumns v_imageFolded v_imageWronged v_bodies v_ran v_ownKind v_ownNumber v_limit v_changeWas v_changeIs v_shapeRows v_shapeColumns v_row v_column v_below v_face v_worn v_lastBend v_tape v_text v_names v_bends v_high v_to v_pileSize v_planLine v_planWay v_way1 v_bestWay v_order1 v_placeIn v_bodyKind v_trace v_shelf v_many v_items v_carried) H → va_D A (wd_X9 cI cL cS cH a v_keptMany v_done v_rowsOf v_columnsOf v_folded v_wronged v_tapeMany v_textMany v_base v_at v_ends v_fault v_opened v_bentMany v_bentWrong v_moreWorn v_planned v_allWrong v_allWorn v_z v_wishedField v_isFound v_bestWrong v_bestWorn v_bestMany v_soughtBy v_sought v_soughtAt v_foundMany v_foundOrder v_isKept v_imageRows v_imageColumns v_imageFolded v_imageWronged v_bodies v_ran v_ownKind v_ownNumber v_limit v_changeWas v_changeIs v_shapeRows v_shapeColumns v_row v_column v_below v_face v_worn v_lastBend v_tape v_text v_names v_bends v_high v_to v_pileSize v_planLine v_planWay v_way1 v_bestWay v_order1 v_placeIn v_bodyKind v_trace v_shelf v_many v_items v_carried) → va_S A s.heap H locs → lv_has ls 16 [(0, .ref (a 0)), (1, .int x1), (2, .int x2), (4, .int x4), (5, .int x5), (6, .int x6), (7, .int x7), (8, .int x8), (9, .int x9), (10, .int x10), (13, .int x13)] → W p l e (mm_rr d) s m args below meth c H locs 0 0 (mm_Z below D A (wd_X9 cI cL cS cH a v_keptMany v_done v_rowsOf v_columnsOf v_folded v_wronged v_tapeMany v_textMany v_base v_at v_ends v_fault v_opened v_bentMany v_bentWrong v_moreWorn v_planned v_allWrong v_allWorn v_z v_wishedField v_isFound v_bestWrong v_bestWorn v_bestMany v_soughtBy v_sought v_soughtAt v_foundMany v_foundOrder v_isKept v_imageRows v_imageColumns v_imageFolded v_imageWronged v_bodies v_ran v_ownKind v_ownNumber v_limit v_changeWas v_changeIs w_shapeRows w_shapeColumns w_row w_column w_below w_face v_worn v_lastBend v_tape v_text v_names v_bends w_high w_to w_pileSize v_planLine v_planWay v_way1 v_bestWay v_order1 v_placeIn v_bodyKind v_trace v_shelf v_many v_items v_carried) none args s) (F0 m 326 ls [.int s0, .int s1, .ref (a 16)]) := by
  obtain ⟨hx, hb, hml, hown, hts, hr, hlocks, hK, hSt⟩ := id C0
  intro x1 x2 x4 x5 x6 x7 x8 x9 x10 x13 s0 s1 v_rowsOf v_columnsOf v_shapeRows v_shapeColumns v_row v_column v_below v_face v_high v_to v_pileSize H locs ls hf hP hD hS hl
  unfold fX9_movesAll_326 at hf
  obtain ⟨h_57, hf⟩ := mm_cks hf
  refine mm_iast C0 hP hD hS 16 rfl h_57 dX9_movesAll_326 (w2 := (wd_X9 cI cL cS cH a v_keptMany v_done v_rowsOf v_columnsOf v_folded v_wronged v_tapeMany v_textMany v_base v_at v_ends v_fault v_opened v_bentMany v_bentWrong v_moreWorn v_planned v_allWrong v_allWorn v_z v_wishedField v_isFound v_bestWrong v_bestWorn v_bestMany v_soughtBy v_sought v_soughtAt v_foundMany v_foundOrder v_isKept v_imageRows v_imageColumns v_imageFolded v_imageWronged v_bodies v_ran v_ownKind v_ownNumber v_limit v_changeWas v_changeIs v_shapeRows v_shapeColumns v_row v_column v_below v_face v_worn v_lastBend v_tape v_text v_names v_bends (mm_is v_high s1 s0) v_to v_pileSize v_planLine v_planWay v_way1 v_bestWay v_order1 v_placeIn v_bodyKind v_trace v_shelf v_many v_items v_carried)) rfl (fun H locs hP hD hS => ?_)
  generalize el_58 : (mm_is v_high s1 s0) = l_58 at hP hD
  have hf := mm_nms hf el_58.symm
  refine lv_aload_n hx hb dX9_movesAll_327 rfl (lv_at hl 0 rfl) ?_
  refine mm_get C0 hP iw_X9 0 rfl rfl 12 (by decide) fl_X9_34 rfl dX9_movesAll_328 ?_
  refine lv_iload hx hb dX9_movesAll_331 (lv_at hl 9 rfl) ?_
  refine lv_iconst (v := 1) hx hb dX9_movesAll_333 (by decide) ?_
  refine lv_aload_n hx hb dX9_movesAll_334 rfl (lv_at hl 0 rfl) ?_
  refine mm_get C0 hP iw_X9 0 rfl rfl 12 (by decide) fl_X9_34 rfl dX9_movesAll_335 ?_
  refine lv_iload hx hb dX9_movesAll_338 (lv_at hl 9 rfl) ?_
  obtain ⟨h_59, hf⟩ := mm_cks hf
  refine mm_iald C0 hP 9 rfl h_59 dX9_movesAll_340 ?_
  refine lv_isub hx hb dX9_movesAll_341 ?_
  refine lv_topi (fun y_60 ey_60 => ?_)
  have hf := mm_nms hf ey_60
  obtain ⟨h_61, hf⟩ := mm_cks hf
  refine mm_iast C0 hP hD hS 9 rfl h_61 dX9_movesAll_342 (w2 := (wd_X9 cI cL cS cH a v_keptMany v_done v_rowsOf v_columnsOf v_folded v_wronged v_tapeMany v_textMany v_base v_at v_ends v_fault v_opened v_bentMany v_bentWrong v_moreWorn v_planned v_allWrong v_allWorn v_z v_wishedField v_isFound v_bestWrong v_bestWorn v_bestMany v_soughtBy v_sought v_soughtAt v_foundMany v_foundOrder v_isKept v_imageRows v_imageColumns v_imageFolded v_imageWronged v_bodies v_ran v_ownKind v_ownNumber v_limit v_changeWas v_changeIs v_shapeRows v_shapeColumns v_row v_column v_below (mm_is v_face x10 y_60) v_worn v_lastBend v_tape v_text v_names v_bends l_58 v_to v_pileSize v_planLine v_planWay v_way1 v_bestWay v_order1 v_placeIn v_bodyKind v_trace v_shelf v_many v_items v_carried)) rfl (fun H locs hP hD hS => ?_)
  generalize el_62 : (mm_is v_face x10 y_60) = l_62 at hP hD
  have hf := mm_nms hf el_62.symm
  refine lv_aload_n hx hb dX9_movesAll_343 rfl (lv_at hl 0 rfl) ?_
  refine mm_get C0 hP iw_X9 0 rfl rfl 32 (by decide) fl_X9_58 rfl dX9_movesAll_344 ?_
  refine lv_iload hx hb dX9_movesAll_347 (lv_at hl 8 rfl) ?_
  refine lv_iload hx hb dX9_movesAll_349 (lv_at hl 10 rfl) ?_
  refine lv_iload hx hb dX9_movesAll_351 (lv_at hl 7 rfl) ?_
  refine lv_isub hx hb dX9_movesAll_353 ?_
  refine lv_topi (fun y_63 ey_63 => ?_)
  have hf := mm_nms hf ey_63
  obtain ⟨h_64, hf⟩ := mm_cks hf
  refine mm_iast C0 hP hD hS 17 rfl h_64 dX9_movesAll_354 (w2 := (wd_X9 cI cL cS cH a v_keptMany v_done v_rowsOf v_columnsOf v_folded v_wronged v_tapeMany v_textMany v_base v_at v_ends v_fault v_opened v_bentMany v_bentWrong v_moreWorn v_planned v_allWrong v_allWorn v_z v_wishedField v_isFound v_bestWrong v_bestWorn v_bestMany v_soughtBy v_sought v_soughtAt v_foundMany v_foundOrder v_isKept v_imageRows v_imageColumns v_imageFolded v_imageWronged v_bodies v_ran v_ownKind v_ownNumber v_limit v_changeWas v_changeIs v_shapeRows v_shapeColumns v_row v_column v_below l_62 v_worn v_lastBend v_tape v_text v_names v_bends l_58 (mm_is v_to x9 y_63) v_pileSize v_planLine v_planWay v_way1 v_bestWay v_order1 v_placeIn v_bodyKind v_trace v_shelf v_many v_items v_carried)) rfl (fun H locs hP hD hS => ?_)
  generalize el_65 : (mm_is v_to x9 y_63) = l_65 at hP hD
  have hf := mm_nms hf el_65.symm
  refine lv_goto (tgt := 402) hx hb dX9_movesAll_355 (by decide) ?_
  exact tX9_movesAll_402 hd C0 hA N hk_174 _ _ _ _ _ _ _ _ _ _ _ _ _ _ _ _ _ _ _ H locs ls hf hP hD hS (lv_sub hl [0, 1, 2, 3, 4, 5, 6, 7, 8] rfl)

def fX9_movesAll_389 (N : Nat) (k_174 : Int32 → Int32 → Int32 → Int32 → Int32 → Int32 → Int32 → Int32 → Int32 → Int32 → List Int32 → List Int32 → List Int32 → List Int32 → List Int32 → List Int32 → List Int32 → List Int32 → List Int32 → Option (List Int32 × List Int32 × List Int32 × List Int32 × List Int32 × List Int32 × List Int32 × List Int32 × List Int32)) (x1 : Int32) (x2 : Int32) (x4 : Int32) (x5 : Int32) (x6 : Int32) (x7 : Int32) (x8 : Int32) (x9 : Int32) (x11 : Int32) (s0 : Int32) (s1 : Int32) (v_rowsOf : Int32) (v_columnsOf : Int32) (v_shapeRows : List Int32) (v_shapeColumns : List Int32) (v_row : List Int32) (v_column : List Int32) (v_below : List Int32) (v_face : List Int32) (v_high : List Int32) (v_to : List Int32) (v_pileSize : List Int32) : Option (List Int32 × List Int32 × List Int32 × List Int32 × List Int32 × List Int32 × List Int32 × List Int32 × List Int32) :=
    mm_ck (mm_inb s1 v_high.length) (mm_nm (mm_is v_high s1 s0) (fun (l_68 : List Int32) =>
    mm_nm ((x11 - x8)) (fun (y_69 : Int32) =>
    mm_ck (mm_inb x9 v_to.length) (mm_nm (mm_is v_to x9 y_69) (fun (l_71 : List Int32) =>
    fX9_movesAll_402 N k_174 x1 x2 x4 x5 x6 x7 x8 x9 v_rowsOf v_columnsOf v_shapeRows v_shapeColumns v_row v_column v_below v_face l_68 l_71 v_pileSize)))))

set_option maxHeartbeats 4000000 in
set_option maxRecDepth 100000 in
theorem tX9_movesAll_389 {p : Program} {l : Launch} {e : Env} {s : State} {m : MethodId} {args : Array Value} {below : List Frame} {meth : Method} {c : Code} {D : va_G} {cI cL cS cH : ClassId} {A : Nat → Prop} {d : Nat} {a : Nat → Nat} (hd : 2 ≤ d) (C0 : mm_Cx p s m args meth c RX9 cX9_movesAll 16 none D (mm_T cI cL cS cH) A) (hA : ∀ q, s.heap.size ≤ q → A q) {v_keptMany : Int32} {v_done : Int32} {v_folded : Int32} {v_wronged : Int32} {v_tapeMany : Int32} {v_textMany : Int32} {v_base : Int32} {v_at : Int32} {v_ends : Int32} {v_fault : Int32} {v_opened : Int32} {v_bentMany : Int32} {v_bentWrong : Int32} {v_moreWorn : Int32} {v_planned : Int32} {v_allWrong : Int32} {v_allWorn : Int32} {v_z : Int32} {v_wishedField : Int32} {v_isFound : Bool} {v_bestWrong : Int32} {v_bestWorn : Int32} {v_bestMany : Int32} {v_soughtBy : Int32} {v_sought : Int32} {v_soughtAt : Int32} {v_foundMany : Int32} {v_foundOrder : Int32} {v_isKept : Bool} {v_imageRows : Int32} {v_imageColumns : Int32} {v_imageFolded : Int32} {v_imageWronged : Int32} {v_bodies : Int32} {v_ran : Int32} {v_ownKind : Int32} {v_ownNumber : Int32} {v_limit : List Int32} {v_changeWas : List Int32} {v_changeIs : List Int32} {v_worn : List Int32} {v_lastBend : List Int32} {v_tape : List Int32} {v_text : List Int32} {v_names : List Int32} {v_bends : List Int32} {v_planLine : List Int32} {v_planWay : List Int32} {v_way1 : List Int32} {v_bestWay : List Int32} {v_order1 : List Int32} {v_placeIn : List Int32} {v_bodyKind : List Int32} {v_trace : List Int32} {v_shelf : List Int32} {v_many : List Int32} {v_items : List Int64} {v_carried : List Int64} {w_shapeRows : List Int32} {w_shapeColumns : List Int32} {w_row : List Int32} {w_column : List Int32} {w_below : List Int32} {w_face : List Int32} {w_high : List Int32} {w_to : List Int32} {w_pileSize : List Int32} (N : Nat) {k_174 : Int32 → Int32 → Int32 → Int32 → Int32 → Int32 → Int32 → Int32 → Int32 → Int32 → List Int32 → List Int32 → List Int32 → List Int32 → List Int32 → List Int32 → List Int32 → List Int32 → List Int32 → Option (List Int32 × List Int32 × List Int32 × List Int32 × List Int32 × List Int32 × List Int32 × List Int32 × List Int32)} (hk_174 : ∀ (x1 : Int32) (x2 : Int32) (x4 : Int32) (x5 : Int32) (x6 : Int32) (x7 : Int32) (x8 : Int32) (x9 : Int32) (v_rowsOf : Int32) (v_columnsOf : Int32) (v_shapeRows : List Int32) (v_shapeColumns : List Int32) (v_row : List Int32) (v_column : List Int32) (v_below : List Int32) (v_face : List Int32) (v_high : List Int32) (v_to : List Int32) (v_pileSize : List Int32) (H : Heap) (locs : List Loc) (ls : Array Slot), k_174 x1 x2 x4 x5 x6 x7 x8 x9 v_rowsOf v_columnsOf v_shapeRows v_shapeColumns v_row v_column v_below v_face v_high v_to v_pileSize = some (w_shapeRows, w_shapeColumns, w_row, w_column, w_below, w_face, w_high, w_to, w_pileSize) → va_P D mm_cl (wd_X9 cI cL cS cH a v_keptMany v_done v_rowsOf v_columnsOf v_folded v_wronged v_tapeMany v_textMany v_base v_at v_ends v_fault v_opened v_bentMany v_bentWrong v_moreWorn v_planned v_allWrong v_allWorn v_z v_wishedField v_isFound v_bestWrong v_bestWorn v_bestMany v_soughtBy v_sought v_soughtAt v_foundMany v_foundOrder v_isKept v_imageRows v_imageColumns v_imageFolded v_imageWronged v_bodies v_ran v_ownKind v_ownNumber v_limit v_changeWas v_changeIs v_shapeRows v_shapeColumns v_row v_column v_below v_face v_worn v_lastBend v_tape v_text v_names v_bends v_high v_to v_pileSize v_planLine v_planWay v_way1 v_bestWay v_order1 v_placeIn v_bodyKind v_trace v_shelf v_many v_items v_carried) H → va_D A (wd_X9 cI cL cS cH a v_keptMany v_done v_rowsOf v_columnsOf v_folded v_wronged v_tapeMany v_textMany v_base v_at v_ends v_fault v_opened v_bentMany v_bentWrong v_moreWorn v_planned v_allWrong v_allWorn v_z v_wishedField v_isFound v_bestWrong v_bestWorn v_bestMany v_soughtBy v_sought v_soughtAt v_foundMany v_foundOrder v_isKept v_imageRows v_imageColumns v_imageFolded v_imageWronged v_bodies v_ran v_ownKind v_ownNumber v_limit v_changeWas v_changeIs v_shapeRows v_shapeColumns v_row v_column v_below v_face v_worn v_lastBend v_tape v_text v_names v_bends v_high v_to v_pileSize v_planLine v_planWay v_way1 v_bestWay v_order1 v_placeIn v_bodyKind v_trace v_shelf v_many v_items v_carried) → va_S A s.heap H locs → lv_has ls 16 [(0, .ref (a 0)), (1, .int x1), (2, .int x2), (4, .int x4), (5, .int x5), (6, .int x6), (7, .int x7), (8, .int x8), (9, .int x9)] → W p l e (mm_rr d) s m args below meth c H locs 0 0 (mm_Z below D A (wd_X9 cI cL cS cH a v_keptMany v_done v_rowsOf v_columnsOf v_folded v_wronged v_tapeMany v_textMany v_base v_at v_ends v_fault v_opened v_bentMany v_bentWrong v_moreWorn v_planned v_allWrong v_allWorn v_z v_wishedField v_isFound v_bestWrong v_bestWorn v_bestMany v_soughtBy v_sought v_soughtAt v_foundMany v_foundOrder v_isKept v_imageRows v_imageColumns v_imageFolded v_imageWronged v_bodies v_ran v_ownKind v_ownNumber v_limit v_changeWas v_changeIs w_shapeRows w_shapeColumns w_row w_column w_below w_face v_worn v_lastBend v_tape v_text v_names v_bends w_high w_to w_pileSize v_planLine v_planWay v_way1 v_bestWay v_order1 v_placeIn v_bodyKind v_trace v_shelf v_many v_items v_carried) none args s) (F0 m 174 ls [])) : ∀ (x1 : Int32) (x2 : Int32) (x4 : Int32) (x5 : Int32) (x6 : Int32) (x7 : Int32) (x8 : Int32) (x9 : Int32) (x11 : Int32) (s0 : Int32) (s1 : Int32) (v_rowsOf : Int32) (v_columnsOf : Int32) (v_shapeRows : List Int32) (v_shapeColumns : List Int32) (v_row : List Int32) (v_column : List Int32) (v_below : List Int32) (v_face : List Int32) (v_high : List Int32) (v_to : List Int32) (v_pileSize : List Int32) (H : Heap) (locs : List Loc) (ls : Array Slot), fX9_movesAll_389 N k_174 x1 x2 x4 x5 x6 x7 x8 x9 x11 s0 s1 v_rowsOf v_columnsOf v_shapeRows v_shapeColumns v_row v_column v_below v_face v_high v_to v_pileSize = some (w_shapeRows, w_shapeColumns, w_row, w_column, w_below, w_face, w_high, w_to, w_pileSize) → va_P D mm_cl (wd_X9 cI cL cS cH a v_keptMany v_done v_rowsOf v_columnsOf v_folded v_wronged v_tapeMany v_textMany v_base v_at v_ends v_fault v_opened v_bentMany v_bentWrong v_moreWorn v_planned v_allWrong v_allWorn v_z v_wishedField v_isFound v_bestWrong v_bestWorn v_bestMany v_soughtBy v_sought v_soughtAt v_foundMany v_foundOrder v_isKept v_imageRows v_imageColumns v_imageFolded v_imageWronged v_bodies v_ran v_ownKind v_ownNumber v_limit v_changeWas v_changeIs v_shapeRows v_shapeColumns v_row v_column v_below v_face v_worn v_lastBend v_tape v_text v_names v_bends v_high v_to v_pileSize v_planLine v_planWay v_way1 v_bestWay v_order1 v_placeIn v_bodyKind v_trace v_shelf v_many v_items v_carried) H → va_D A (wd_X9 cI cL cS cH a v_keptMany v_done v_rowsOf v_columnsOf v_folded v_wronged v_tapeMany v_textMany v_base v_at v_ends v_fault v_opened v_bentMany v_bentWrong v_moreWorn v_planned v_allWrong v_allWorn v_z v_wishedField v_isFound v_bestWrong v_bestWorn v_bestMany v_soughtBy v_sought v_soughtAt v_foundMany v_foundOrder v_isKept v_imageRows v_imageColumns v_imageFolded v_imageWronged v_bodies v_ran v_ownKind v_ownNumber v_limit v_changeWas v_changeIs v_shapeRows v_shapeColumns v_row v_column v_below v_face v_worn v_lastBend v_tape v_text v_names v_bends v_high v_to v_pileSize v_planLine v_planWay v_way1 v_bestWay v_order1 v_placeIn v_bodyKind v_trace v_shelf v_many v_items v_carried) → va_S A s.heap H locs → lv_has ls 16 [(0, .ref (a 0)), (1, .int x1), (2, .int x2), (4, .int x4), (5, .int x5), (6, .int x6), (7, .int x7), (8, .int x8), (9, .int x9), (11, .int x11)] → W p l e (mm_rr d) s m args below meth c H locs 0 0 (mm_Z below D A (wd_X9 cI cL cS cH a v_keptMany v_done v_rowsOf v_columnsOf v_folded v_wronged v_tapeMany v_textMany v_base v_at v_ends v_fault v_opened v_bentMany v_bentWrong v_moreWorn v_planned v_allWrong v_allWorn v_z v_wishedField v_isFound v_bestWrong v_bestWorn v_bestMany v_soughtBy v_sought v_soughtAt v_foundMany v_foundOrder v_isKept v_imageRows v_imageColumns v_imageFolded v_imageWronged v_bodies v_ran v_ownKind v_ownNumber v_limit v_changeWas v_changeIs w_shapeRows w_shapeColumns w_row w_column w_below w_face v_worn v_lastBend v_tape v_text v_names v_bends w_high w_to w_pileSize v_planLine v_planWay v_way1 v_bestWay v_order1 v_placeIn v_bodyKind v_trace v_shelf v_many v_items v_carried) none args s) (F0 m 389 ls [.int s0, .int s1, .ref (a 16)]) := by
  obtain ⟨hx, hb, hml, hown, hts, hr, hlocks, hK, hSt⟩ := id C0
  intro x1 x2 x4 x5 x6 x7 x8 x9 x11 s0 s1 v_rowsOf v_columnsOf v_shapeRows v_shapeColumns v_row v_column v_below v_face v_high v_to v_pileSize H locs ls hf hP hD hS hl
  unfold fX9_movesAll_389 at hf
  obtain ⟨h_67, hf⟩ := mm_cks hf
  refine mm_iast C0 hP hD hS 16 rfl h_67 dX9_movesAll_389 (w2 := (wd_X9 cI cL cS cH a v_keptMany v_done v_rowsOf v_columnsOf v_folded v_wronged v_tapeMany v_textMany v_base v_at v_ends v_fault v_opened v_bentMany v_bentWrong v_moreWorn v_planned v_allWrong v_allWorn v_z v_wishedField v_isFound v_bestWrong v_bestWorn v_bestMany v_soughtBy v_sought v_soughtAt v_foundMany v_foundOrder v_isKept v_imageRows v_imageColumns v_imageFolded v_imageWronged v_bodies v_ran v_ownKind v_ownNumber v_limit v_changeWas v_changeIs v_shapeRows v_shapeColumns v_row v_column v_below v_face v_worn v_lastBend v_tape v_text v_names v_bends (mm_is v_high s1 s0) v_to v_pileSize v_planLine v_planWay v_way1 v_bestWay v_order1 v_placeIn v_bodyKind v_trace v_shelf v_many v_items v_carried)) rfl (fun H locs hP hD hS => ?_)
  generalize el_68 : (mm_is v_high s1 s0) = l_68 at hP hD
  have hf := mm_nms hf el_68.symm
  refine lv_aload_n hx hb dX9_movesAll_390 rfl (lv_at hl 0 rfl) ?_
  refine mm_get C0 hP iw_X9 0 rfl rfl 32 (by decide) fl_X9_58 rfl dX9_movesAll_391 ?_
  refine lv_iload hx hb dX9_movesAll_394 (lv_at hl 8 rfl) ?_
  refine lv_iload hx hb dX9_movesAll_396 (lv_at hl 9 rfl) ?_
  refine lv_iload hx hb dX9_movesAll_398 (lv_at hl 7 rfl) ?_
  refine lv_isub hx hb dX9_movesAll_400 ?_
  refine lv_topi (fun y_69 ey_69 => ?_)
  have hf := mm_nms hf ey_69
  obtain ⟨h_70, hf⟩ := mm_cks hf
  refine mm_iast C0 hP hD hS 17 rfl h_70 dX9_movesAll_401 (w2 := (wd_X9 cI cL cS cH a v_keptMany v_done v_rowsOf v_columnsOf v_folded v_wronged v_tapeMany v_textMany v_base v_at v_ends v_fault v_opened v_bentMany v_bentWrong v_moreWorn v_planned v_allWrong v_allWorn v_z v_wishedField v_isFound v_bestWrong v_bestWorn v_bestMany v_soughtBy v_sought v_soughtAt v_foundMany v_foundOrder v_isKept v_imageRows v_imageColumns v_imageFolded v_imageWronged v_bodies v_ran v_ownKind v_ownNumber v_limit v_changeWas v_changeIs v_shapeRows v_shapeColumns v_row v_column v_below v_face v_worn v_lastBend v_tape v_text v_names v_bends l_68 (mm_is v_to x9 y_69) v_pileSize v_planLine v_planWay v_way1 v_bestWay v_order1 v_placeIn v_bodyKind v_trace v_shelf v_many v_items v_carried)) rfl (fun H locs hP hD hS => ?_)
  generalize el_71 : (mm_is v_to x9 y_69) = l_71 at hP hD
  have hf := mm_nms hf el_71.symm
  exact tX9_movesAll_402 hd C0 hA N hk_174 _ _ _ _ _ _ _ _ _ _ _ _ _ _ _ _ _ _ _ H locs ls hf hP hD hS (lv_sub hl [0, 1, 2, 3, 4, 5, 6, 7, 8] rfl)

def fX9_movesAll_276 (N : Nat) (k_174 : Int32 → Int32 → Int32 → Int32 → Int32 → Int32 → Int32 → Int32 → Int32 → Int32 → List Int32 → List Int32 → List Int32 → List Int32 → List Int32 → List Int32 → List Int32 → List Int32 → List Int32 → Option (List Int32 × List Int32 × List Int32 × List Int32 × List Int32 × List Int32 × List Int32 × List Int32 × List Int32)) (x1 : Int32) (x2 : Int32) (x4 : Int32) (x5 : Int32) (x6 : Int32) (x7 : Int32) (x8 : Int32) (x9 : Int32) (x10 : Int32) (x11 : Int32) (x12 : Int32) (x13 : Int32) (x14 : Int32) (s0 : Int32) (v_rowsOf : Int32) (v_columnsOf : Int32) (v_shapeRows : List Int32) (v_shapeColumns : List Int32) (v_row : List Int32) (v_column : List Int32) (v_below : List Int32) (v_face : List Int32) (v_high : List Int32) (v_to : List Int32) (v_pileSize : List Int32) : Option (List Int32 × List Int32 × List Int32 × List Int32 × List Int32 × List Int32 × List Int32 × List Int32 × List Int32) :=
    if s0 = x5 then
    (mm_bd1 (fX9_pileAt N x11 x12) (fun (r_51 : Int32) =>
    mm_ck (mm_inb r_51 v_pileSize.length) (mm_ck (mm_inb x10 v_below.length) (mm_nm ((((mm_ig v_pileSize r_51) - (1 : Int32)) - (mm_ig v_below x10))) (fun (y_55 : Int32) =>
    if x6 = 0 then
    (fX9_movesAll_326 N k_174 x1 x2 x4 x5 x6 x7 x8 x9 x10 x13 y_55 x9 v_rowsOf v_columnsOf v_shapeRows v_shapeColumns v_row v_column v_below v_face v_high v_to v_pileSize)
    else (fX9_movesAll_326 N k_174 x1 x2 x4 x5 x6 x7 x8 x9 x10 x13 (y_55 + x14) x9 v_rowsOf v_columnsOf v_shapeRows v_shapeColumns v_row v_column v_below v_face v_high v_to v_pileSize))))))
    else (if x6 = 0 then
    (mm_ck (mm_inb x10 v_below.length) (fX9_movesAll_389 N k_174 x1 x2 x4 x5 x6 x7 x8 x9 x11 ((mm_ig v_below x10) + x14) x9 v_rowsOf v_columnsOf v_shapeRows v_shapeColumns v_row v_column v_below v_face v_high v_to v_pileSize))
    else (mm_ck (mm_inb x10 v_below.length) (fX9_movesAll_389 N k_174 x1 x2 x4 x5 x6 x7 x8 x9 x11 (mm_ig v_below x10) x9 v_rowsOf v_columnsOf v_shapeRows v_shapeColumns v_row v_column v_below v_face v_high v_to v_pileSize)))

set_option maxHeartbeats 4000000 in
set_option maxRecDepth 100000 in
theorem tX9_movesAll_276 {p : Program} {l : Launch} {e : Env} {s : State} {m : MethodId} {args : Array Value} {below : List Frame} {meth : Method} {c : Code} {D : va_G} {cI cL cS cH : ClassId} {A : Nat → Prop} {d : Nat} {a : Nat → Nat} (hd : 2 ≤ d) (C0 : mm_Cx p s m args meth c RX9 cX9_movesAll 16 none D (mm_T cI cL cS cH) A) (hA : ∀ q, s.heap.size ≤ q → A q) {v_keptMany : Int32} {v_done : Int32} {v_folded : Int32} {v_wronged : Int32} {v_tapeMany : Int32} {v_textMany : Int32} {v_base : Int32} {v_at : Int32} {v_ends : Int32} {v_fault : Int32} {v_opened : Int32} {v_bentMany : Int32} {v_bentWrong : Int32} {v_moreWorn : Int32} {v_planned : Int32} {v_allWrong : Int32} {v_allWorn : Int32} {v_z : Int32} {v_wishedField : Int32} {v_isFound : Bool} {v_bestWrong : Int32} {v_bestWorn : Int32} {v_bestMany : Int32} {v_soughtBy : Int32} {v_sought : Int32} {v_soughtAt : Int32} {v_foundMany : Int32} {v_foundOrder : Int32} {v_isKept : Bool} {v_imageRows : Int32} {v_imageColumns : Int32} {v_imageFolded : Int32} {v_imageWronged : Int32} {v_bodies : Int32} {v_ran : Int32} {v_ownKind : Int32} {v_ownNumber : Int32} {v_limit : List Int32} {v_changeWas : List Int32} {v_changeIs : List Int32} {v_worn : List Int32} {v_lastBend : List Int32} {v_tape : List Int32} {v_text : List Int32} {v_names : List Int32} {v_bends : List Int32} {v_planLine : List Int32} {v_planWay : List Int32} {v_way1 : List Int32} {v_bestWay : List Int32} {v_order1 : List Int32} {v_placeIn : List Int32} {v_bodyKind : List Int32} {v_trace : List Int32} {v_shelf : List Int32} {v_many : List Int32} {v_items : List Int64} {v_carried : List Int64} {w_shapeRows : List Int32} {w_shapeColumns : List Int32} {w_row : List Int32} {w_column : List Int32} {w_below : List Int32} {w_face : List Int32} {w_high : List Int32} {w_to : List Int32} {w_pileSize : List Int32} (N : Nat) {k_174 : Int32 → Int32 → Int32 → Int32 → Int32 → Int32 → Int32 → Int32 → Int32 → Int32 → List Int32 → List Int32 → List Int32 → List Int32 → List Int32 → List Int32 → List Int32 → List Int32 → List Int32 → Option (List Int32 × List Int32 × List Int32 × List Int32 × List Int32 × List Int32 × List Int32 × List Int32 × List Int32)} (hk_174 : ∀ (x1 : Int32) (x2 : Int32) (x4 : Int32) (x5 : Int32) (x6 : Int32) (x7 : Int32) (x8 : Int32) (x9 : Int32) (v_rowsOf : Int32) (v_columnsOf : Int32) (v_shapeRows : List Int32) (v_shapeColumns : List Int32) (v_row : List Int32) (v_column : List Int32) (v_below : List Int32) (v_face : List Int32) (v_high : List Int32) (v_to : List Int32) (v_pileSize : List Int32) (H : Heap) (locs : List Loc) (ls : Array Slot), k_174 x1 x2 x4 x5 x6 x7 x8 x9 v_rowsOf v_columnsOf v_shapeRows v_shapeColumns v_row v_column v_below v_face v_high v_to v_pileSize = some (w_shapeRows, w_shapeColumns, w_row, w_column, w_below, w_face, w_high, w_to, w_pileSize) → va_P D mm_cl (wd_X9 cI cL cS cH a v_keptMany v_done v_rowsOf v_columnsOf v_folded v_wronged v_tapeMany v_textMany v_base v_at v_ends v_fault v_opened v_bentMany v_bentWrong v_moreWorn v_planned v_allWrong v_allWorn v_z v_wishedField v_isFound v_bestWrong v_bestWorn v_bestMany v_soughtBy v_sought v_soughtAt v_foundMany v_foundOrder v_isKept v_imageRows v_imageColumns v_imageFolded v_imageWronged v_bodies v_ran v_ownKind v_ownNumber v_limit v_changeWas v_changeIs v_shapeRows v_shapeColumns v_row v_column v_below v_face v_worn v_lastBend v_tape v_text v_names v_bends v_high v_to v_pileSize v_planLine v_planWay v_way1 v_bestWay v_order1 v_placeIn v_bodyKind v_trace v_shelf v_many v_items v_carried) H → va_D A (wd_X9 cI cL cS cH a v_keptMany v_done v_rowsOf v_columnsOf v_folded v_wronged v_tapeMany v_textMany v_base v_at v_ends v_fault v_opened v_bentMany v_bentWrong v_moreWorn v_planned v_allWrong v_allWorn v_z v_wishedField v_isFound v_bestWrong v_bestWorn v_bestMany v_soughtBy v_sought v_soughtAt v_foundMany v_foundOrder v_isKept v_imageRows v_imageColumns v_imageFolded v_imageWronged v_bodies v_ran v_ownKind v_ownNumber v_limit v_changeWas v_changeIs v_shapeRows v_shapeColumns v_row v_column v_below v_face v_worn v_lastBend v_tape v_text v_names v_bends v_high v_to v_pileSize v_planLine v_planWay v_way1 v_bestWay v_order1 v_placeIn v_bodyKind v_trace v_shelf v_many v_items v_carried) → va_S A s.heap H locs → lv_has ls 16 [(0, .ref (a 0)), (1, .int x1), (2, .int x2), (4, .int x4), (5, .int x5), (6, .int x6), (7, .int x7), (8, .int x8), (9, .int x9)] → W p l e (mm_rr d) s m args below meth c H locs 0 0 (mm_Z below D A (wd_X9 cI cL cS cH a v_keptMany v_done v_rowsOf v_columnsOf v_folded v_wronged v_tapeMany v_textMany v_base v_at v_ends v_fault v_opened v_bentMany v_bentWrong v_moreWorn v_planned v_allWrong v_allWorn v_z v_wishedField v_isFound v_bestWrong v_bestWorn v_bestMany v_soughtBy v_sought v_soughtAt v_foundMany v_foundOrder v_isKept v_imageRows v_imageColumns v_imageFolded v_imageWronged v_bodies v_ran v_ownKind v_ownNumber v_limit v_changeWas v_changeIs w_shapeRows w_shapeColumns w_row w_column w_below w_face v_worn v_lastBend v_tape v_text v_names v_bends w_high w_to w_pileSize v_planLine v_planWay v_way1 v_bestWay v_order1 v_placeIn v_bodyKind v_trace v_shelf v_many v_items v_carried) none args s) (F0 m 174 ls [])) : ∀ (x1 : Int32) (x2 : Int32) (x4 : Int32) (x5 : Int32) (x6 : Int32) (x7 : Int32) (x8 : Int32) (x9 : Int32) (x10 : Int32) (x11 : Int32) (x12 : Int32) (x13 : Int32) (x14 : Int32) (s0 : Int32) (v_rowsOf : Int32) (v_columnsOf : Int32) (v_shapeRows : List Int32) (v_shapeColumns : List Int32) (v_row : List Int32) (v_column : List Int32) (v_below : List Int32) (v_face : List Int32) (v_high : List Int32) (v_to : List Int32) (v_pileSize : List Int32) (H : Heap) (locs : List Loc) (ls : Array Slot), fX9_movesAll_276 N k_174 x1 x2 x4 x5 x6 x7 x8 x9 x10 x11 x12 x13 x14 s0 v_rowsOf v_columnsOf v_shapeRows v_shapeColumns v_row v_column v_below v_face v_high v_to v_pileSize = some (w_shapeRows, w_shapeColumns, w_row, w_column, w_below, w_face, w_high, w_to, w_pileSize) → va_P D mm_cl (wd_X9 cI cL cS cH a v_keptMany v_done v_rowsOf v_columnsOf v_folded v_wronged v_tapeMany v_textMany v_base v_at v_ends v_fault v_opened v_bentMany v_bentWrong v_moreWorn v_planned v_allWrong v_allWorn v_z v_wishedField v_isFound v_bestWrong v_bestWorn v_bestMany v_soughtBy v_sought v_soughtAt v_foundMany v_foundOrder v_isKept v_imageRows v_imageColumns v_imageFolded v_imageWronged v_bodies v_ran v_ownKind v_ownNumber v_limit v_changeWas v_changeIs v_shapeRows v_shapeColumns v_row v_column v_below v_face v_worn v_lastBend v_tape v_text v_names v_bends v_high v_to v_pileSize v_planLine v_planWay v_way1 v_bestWay v_order1 v_placeIn v_bodyKind v_trace v_shelf v_many v_items v_carried) H → va_D A (wd_X9 cI cL cS cH a v_keptMany v_done v_rowsOf v_columnsOf v_folded v_wronged v_tapeMany v_textMany v_base v_at v_ends v_fault v_opened v_bentMany v_bentWrong v_moreWorn v_planned v_allWrong v_allWorn v_z v_wishedField v_isFound v_bestWrong v_bestWorn v_bestMany v_soughtBy v_sought v_soughtAt v_foundMany v_foundOrder v_isKept v_imageRows v_imageColumns v_imageFolded v_imageWronged v_bodies v_ran v_ownKind v_ownNumber v_limit v_changeWas v_changeIs v_shapeRows v_shapeColumns v_row v_column v_below v_face v_worn v_lastBend v_tape v_text v_names v_bends v_high v_to v_pileSize v_planLine v_planWay v_way1 v_bestWay v_order1 v_placeIn v_bodyKind v_trace v_shelf v_many v_items v_carried) → va_S A s.heap H locs → lv_has ls 16 [(0, .ref (a 0)), (1, .int x1), (2, .int x2), (4, .int x4), (5, .int x5), (6, .int x6), (7, .int x7), (8, .int x8), (9, .int x9), (10, .int x10), (11, .int x11), (12, .int x12), (13, .int x13), (14, .int x14)] → W p l e (mm_rr d) s m args below meth c H locs 0 0 (mm_Z below D A (wd_X9 cI cL cS cH a v_keptMany v_done v_rowsOf v_columnsOf v_folded v_wronged v_tapeMany v_textMany v_base v_at v_ends v_fault v_opened v_bentMany v_bentWrong v_moreWorn v_planned v_allWrong v_allWorn v_z v_wishedField v_isFound v_bestWrong v_bestWorn v_bestMany v_soughtBy v_sought v_soughtAt v_foundMany v_foundOrder v_isKept v_imageRows v_imageColumns v_imageFolded v_imageWronged v_bodies v_ran v_ownKind v_ownNumber v_limit v_changeWas v_changeIs w_shapeRows w_shapeColumns w_row w_column w_below w_face v_worn v_lastBend v_tape v_text v_names v_bends w_high w_to w_pileSize v_planLine v_planWay v_way1 v_bestWay v_order1 v_placeIn v_bodyKind v_trace v_shelf v_many v_items v_carried) none args s) (F0 m 276 ls [.int s0]) := by
  obtain ⟨hx, hb, hml, hown, hts, hr, hlocks, hK, hSt⟩ := id C0
  intro x1 x2 x4 x5 x6 x7 x8 x9 x10 x11 x12 x13 x14 s0 v_rowsOf v_columnsOf v_shapeRows v_shapeColumns v_row v_column v_below v_face v_high v_to v_pileSize H locs ls hf hP hD hS hl
  unfold fX9_movesAll_276 at hf
  refine lv_iload hx hb dX9_movesAll_276 (lv_at hl 4 rfl) ?_
  refine lv_icmp_ne (tgt := 358) hx hb dX9_movesAll_278 (by decide) (fun c_47 => ?_) (fun c_47 => ?_)
  · have hf := mm_in hf c_47
    refine lv_aload_n hx hb dX9_movesAll_358 rfl (lv_at hl 0 rfl) ?_
    refine mm_get C0 hP iw_X9 0 rfl rfl 31 (by decide) fl_X9_55 rfl dX9_movesAll_359 ?_
    refine lv_iload hx hb dX9_movesAll_362 (lv_at hl 8 rfl) ?_
    refine lv_iload hx hb dX9_movesAll_364 (lv_at hl 5 rfl) ?_
    refine lv_if_eq (tgt := 379) hx hb dX9_movesAll_366 (by decide) (fun c_48 => ?_) (fun c_48 => ?_)
    · have hf := mm_ip hf c_48
      refine lv_aload_n hx hb dX9_movesAll_379 rfl (lv_at hl 0 rfl) ?_
      refine mm_get C0 hP iw_X9 0 rfl rfl 11 (by decide) fl_X9_31 rfl dX9_movesAll_380 ?_
      refine lv_iload hx hb dX9_movesAll_383 (lv_at hl 9 rfl) ?_
      obtain ⟨h_49, hf⟩ := mm_cks hf
      refine mm_iald C0 hP 8 rfl h_49 dX9_movesAll_385 ?_
      refine lv_iload hx hb dX9_movesAll_386 (lv_at hl 13 rfl) ?_
      refine lv_iadd hx hb dX9_movesAll_388 ?_
      exact tX9_movesAll_389 hd C0 hA N hk_174 _ _ _ _ _ _ _ _ _ _ _ _ _ _ _ _ _ _ _ _ _ _ H locs ls hf hP hD hS (lv_sub hl [0, 1, 2, 3, 4, 5, 6, 7, 8, 10] rfl)
    · have hf := mm_in hf c_48
      refine lv_aload_n hx hb dX9_movesAll_369 rfl (lv_at hl 0 rfl) ?_
      refine mm_get C0 hP iw_X9 0 rfl rfl 11 (by decide) fl_X9_31 rfl dX9_movesAll_370 ?_
      refine lv_iload hx hb dX9_movesAll_373 (lv_at hl 9 rfl) ?_
      obtain ⟨h_50, hf⟩ := mm_cks hf
      refine mm_iald C0 hP 8 rfl h_50 dX9_movesAll_375 ?_
      refine lv_goto (tgt := 389) hx hb dX9_movesAll_376 (by decide) ?_
      exact tX9_movesAll_389 hd C0 hA N hk_174 _ _ _ _ _ _ _ _ _ _ _ _ _ _ _ _ _ _ _ _ _ _ H locs ls hf hP hD hS (lv_sub hl [0, 1, 2, 3, 4, 5, 6, 7, 8, 10] rfl)
  · have hf := mm_ip hf c_47
    refine lv_aload_n hx hb dX9_movesAll_281 rfl (lv_at hl 0 rfl) ?_
    refine mm_get C0 hP iw_X9 0 rfl rfl 33 (by decide) fl_X9_61 rfl dX9_movesAll_282 ?_
    refine lv_iload hx hb dX9_movesAll_285 (lv_at hl 10 rfl) ?_
    refine lv_iload hx hb dX9_movesAll_287 (lv_at hl 11 rfl) ?_
    obtain ⟨r_51, hc_52, hf⟩ := mm_bd1s hf
    refine mm_callS0 (rest := [.ref (a 18)]) C0 lk_X9_228 (ctX9_pileAt (d := d - 1) (by omega) hc_52) (by omega) rfl hl.1 rfl (mm_cat rfl) dX9_movesAll_289 hP hD hA hS (fun H locs hP hS => ?_)
    refine W.eq (g2 := F0 m 292 ls [.int r_51, .ref (a 18)]) rfl ?_
    obtain ⟨h_53, hf⟩ := mm_cks hf
    refine mm_iald C0 hP 18 rfl h_53 dX9_movesAll_292 ?_
    refine lv_iconst (v := 1) hx hb dX9_movesAll_293 (by decide) ?_
    refine lv_isub hx hb dX9_movesAll_294 ?_
    refine lv_aload_n hx hb dX9_movesAll_295 rfl (lv_at hl 0 rfl) ?_
    refine mm_get C0 hP iw_X9 0 rfl rfl 11 (by decide) fl_X9_31 rfl dX9_movesAll_296 ?_
    refine lv_iload hx hb dX9_movesAll_299 (lv_at hl 9 rfl) ?_
    obtain ⟨h_54, hf⟩ := mm_cks hf
    refine mm_iald C0 hP 8 rfl h_54 dX9_movesAll_301 ?_
    refine lv_isub hx hb dX9_movesAll_302 ?_
    refine lv_topi (fun y_55 ey_55 => ?_)
    have hf := mm_nms hf ey_55
    refine lv_istore (lv' := [(15, .int y_55), (0, .ref (a 0)), (1, .int x1), (2, .int x2), (4, .int x4), (5, .int x5), (6, .int x6), (7, .int x7), (8, .int x8), (9, .int x9), (10, .int x10), (11, .int x11), (12, .int x12), (13, .int x13), (14, .int x14)]) hx hb dX9_movesAll_303 hl (by decide) rfl (fun ls hl => ?_)
    refine lv_aload_n hx hb dX9_movesAll_305 rfl (lv_at hl 1 rfl) ?_
    refine mm_get C0 hP iw_X9 0 rfl rfl 31 (by decide) fl_X9_55 rfl dX9_movesAll_306 ?_
    refine lv_iload hx hb dX9_movesAll_309 (lv_at hl 9 rfl) ?_
    refine lv_iload hx hb dX9_movesAll_311 (lv_at hl 6 rfl) ?_
    refine lv_if_eq (tgt := 324) hx hb dX9_movesAll_313 (by decide) (fun c_56 => ?_) (fun c_56 => ?_)
    · have hf := mm_ip hf c_56
      refine lv_iload hx hb dX9_movesAll_324 (lv_at hl 0 rfl) ?_
      exact tX9_movesAll_326 hd C0 hA N hk_174 _ _ _ _ _ _ _ _ _ _ _ _ _ _ _ _ _ _ _ _ _ _ _ H locs ls hf hP hD hS (lv_sub hl [1, 2, 3, 4, 5, 6, 7, 8, 9, 10, 13] rfl)
    · have hf := mm_in hf c_56
      refine lv_iload hx hb dX9_movesAll_316 (lv_at hl 0 rfl) ?_
      refine lv_iload hx hb dX9_movesAll_318 (lv_at hl 14 rfl) ?_
      refine lv_iadd hx hb dX9_movesAll_320 ?_
      refine lv_goto (tgt := 326) hx hb dX9_movesAll_321 (by decide) ?_
      exact tX9_movesAll_326 hd C0 hA N hk_174 _ _ _ _ _ _ _ _ _ _ _ _ _ _ _ _ _ _ _ _ _ _ _ H locs ls hf hP hD hS (lv_sub hl [1, 2, 3, 4, 5, 6, 7, 8, 9, 10, 13] rfl)

def fX9_movesAll_263 (N : Nat) (k_174 : Int32 → Int32 → Int32 → Int32 → Int32 → Int32 → Int32 → Int32 → Int32 → Int32 → List Int32 → List Int32 → List Int32 → List Int32 → List Int32 → List Int32 → List Int32 → List Int32 → List Int32 → Option (List Int32 × List Int32 × List Int32 × List Int32 × List Int32 × List Int32 × List Int32 × List Int32 × List Int32)) (x1 : Int32) (x2 : Int32) (x4 : Int32) (x5 : Int32) (x6 : Int32) (x7 : Int32) (x8 : Int32) (x9 : Int32) (x10 : Int32) (x11 : Int32) (x12 : Int32) (x13 : Int32) (s0 : Int32) (v_rowsOf : Int32) (v_columnsOf : Int32) (v_shapeRows : List Int32) (v_shapeColumns : List Int32) (v_row : List Int32) (v_column : List Int32) (v_below : List Int32) (v_face : List Int32) (v_high : List Int32) (v_to : List Int32) (v_pileSize : List Int32) : Option (List Int32 × List Int32 × List Int32 × List Int32 × List Int32 × List Int32 × List Int32 × List Int32 × List Int32) :=
    if x2 ≤ x11 then
    (fX9_movesAll_276 N k_174 x1 x2 x4 x5 x6 x7 x8 x9 x10 x11 x12 x13 s0 (0 : Int32) v_rowsOf v_columnsOf v_shapeRows v_shapeColumns v_row v_column v_below v_face v_high v_to v_pileSize)
    else (fX9_movesAll_276 N k_174 x1 x2 x4 x5 x6 x7 x8 x9 x10 x11 x12 x13 s0 (1 : Int32) v_rowsOf v_columnsOf v_shapeRows v_shapeColumns v_row v_column v_below v_face v_high v_to v_pileSize)

set_option maxHeartbeats 4000000 in
set_option maxRecDepth 100000 in
theorem tX9_movesAll_263 {p : Program} {l : Launch} {e : Env} {s : State} {m : MethodId} {args : Array Value} {below : List Frame} {meth : Method} {c : Code} {D : va_G} {cI cL cS cH : ClassId} {A : Nat → Prop} {d : Nat} {a : Nat → Nat} (hd : 2 ≤ d) (C0 : mm_Cx p s m args meth c RX9 cX9_movesAll 16 none D (mm_T cI cL cS cH) A) (hA : ∀ q, s.heap.size ≤ q → A q) {v_keptMany : Int32} {v_done : Int32} {v_folded : Int32} {v_wronged : Int32} {v_tapeMany : Int32} {v_textMany : Int32} {v_base : Int32} {v_at : Int32} {v_ends : Int32} {v_fault : Int32} {v_opened : Int32} {v_bentMany : Int32} {v_bentWrong : Int32} {v_moreWorn : Int32} {v_planned : Int32} {v_allWrong : Int32} {v_allWorn : Int32} {v_z : Int32} {v_wishedField : Int32} {v_isFound : Bool} {v_bestWrong : Int32} {v_bestWorn : Int32} {v_bestMany : Int32} {v_soughtBy : Int32} {v_sought : Int32} {v_soughtAt : Int32} {v_foundMany : Int32} {v_foundOrder : Int32} {v_isKept : Bool} {v_imageRows : Int32} {v_imageColumns : Int32} {v_imageFolded : Int32} {v_imageWronged : Int32} {v_bodies : Int32} {v_ran : Int32} {v_ownKind : Int32} {v_ownNumber : Int32} {v_limit : List Int32} {v_changeWas : List Int32} {v_changeIs : List Int32} {v_worn : List Int32} {v_lastBend : List Int32} {v_tape : List Int32} {v_text : List Int32} {v_names : List Int32} {v_bends : List Int32} {v_planLine : List Int32} {v_planWay : List Int32} {v_way1 : List Int32} {v_bestWay : List Int32} {v_order1 : List Int32} {v_placeIn : List Int32} {v_bodyKind : List Int32} {v_trace : List Int32} {v_shelf : List Int32} {v_many : List Int32} {v_items : List Int64} {v_carried : List Int64} {w_shapeRows : List Int32} {w_shapeColumns : List Int32} {w_row : List Int32} {w_column : List Int32} {w_below : List Int32} {w_face : List Int32} {w_high : List Int32} {w_to : List Int32} {w_pileSize : List Int32} (N : Nat) {k_174 : Int32 → Int32 → Int32 → Int32 → Int32 → Int32 → Int32 → Int32 → Int32 → Int32 → List Int32 → List Int32 → List Int32 → List Int32 → List Int32 → List Int32 → List Int32 → List Int32 → List Int32 → Option (List Int32 × List Int32 × List Int32 × List Int32 × List Int32 × List Int32 × List Int32 × List Int32 × List Int32)} (hk_174 : ∀ (x1 : Int32) (x2 : Int32) (x4 : Int32) (x5 : Int32) (x6 : Int32) (x7 : Int32) (x8 : Int32) (x9 : Int32) (v_rowsOf : Int32) (v_columnsOf : Int32) (v_shapeRows : List Int32) (v_shapeColumns : List Int32) (v_row : List Int32) (v_column : List Int32) (v_below : List Int32) (v_face : List Int32) (v_high : List Int32) (v_to : List Int32) (v_pileSize : List Int32) (H : Heap) (locs : List Loc) (ls : Array Slot), k_174 x1 x2 x4 x5 x6 x7 x8 x9 v_rowsOf v_columnsOf v_shapeRows v_shapeColumns v_row v_column v_below v_face v_high v_to v_pileSize = some (w_shapeRows, w_shapeColumns, w_row, w_column, w_below, w_face, w_high, w_to, w_pileSize) → va_P D mm_cl (wd_X9 cI cL cS cH a v_keptMany v_done v_rowsOf v_columnsOf v_folded v_wronged v_tapeMany v_textMany v_base v_at v_ends v_fault v_opened v_bentMany v_bentWrong v_moreWorn v_planned v_allWrong v_allWorn v_z v_wishedField v_isFound v_bestWrong v_bestWorn v_bestMany v_soughtBy v_sought v_soughtAt v_foundMany v_foundOrder v_isKept v_imageRows v_imageColumns v_imageFolded v_imageWronged v_bodies v_ran v_ownKind v_ownNumber v_limit v_changeWas v_changeIs v_shapeRows v_shapeColumns v_row v_column v_below v_face v_worn v_lastBend v_tape v_text v_names v_bends v_high v_to v_pileSize v_planLine v_planWay v_way1 v_bestWay v_order1 v_placeIn v_bodyKind v_trace v_shelf v_many v_items v_carried) H → va_D A (wd_X9 cI cL cS cH a v_keptMany v_done v_rowsOf v_columnsOf v_folded v_wronged v_tapeMany v_textMany v_base v_at v_ends v_fault v_opened v_bentMany v_bentWrong v_moreWorn v_planned v_allWrong v_allWorn v_z v_wishedField v_isFound v_bestWrong v_bestWorn v_bestMany v_soughtBy v_sought v_soughtAt v_foundMany v_foundOrder v_isKept v_imageRows v_imageColumns v_imageFolded v_imageWronged v_bodies v_ran v_ownKind v_ownNumber v_limit v_changeWas v_changeIs v_shapeRows v_shapeColumns v_row v_column v_below v_face v_worn v_lastBend v_tape v_text v_names v_bends v_high v_to v_pileSize v_planLine v_planWay v_way1 v_bestWay v_order1 v_placeIn v_bodyKind v_trace v_shelf v_many v_items v_carried) → va_S A s.heap H locs → lv_has ls 16 [(0, .ref (a 0)), (1, .int x1), (2, .int x2), (4, .int x4), (5, .int x5), (6, .int x6), (7, .int x7), (8, .int x8), (9, .int x9)] → W p l e (mm_rr d) s m args below meth c H locs 0 0 (mm_Z below D A (wd_X9 cI cL cS cH a v_keptMany v_done v_rowsOf v_columnsOf v_folded v_wronged v_tapeMany v_textMany v_base v_at v_ends v_fault v_opened v_bentMany v_bentWrong v_moreWorn v_planned v_allWrong v_allWorn v_z v_wishedField v_isFound v_bestWrong v_bestWorn v_bestMany v_soughtBy v_sought v_soughtAt v_foundMany v_foundOrder v_isKept v_imageRows v_imageColumns v_imageFolded v_imageWronged v_bodies v_ran v_ownKind v_ownNumber v_limit v_changeWas v_changeIs w_shapeRows w_shapeColumns w_row w_column w_below w_face v_worn v_lastBend v_tape v_text v_names v_bends w_high w_to w_pileSize v_planLine v_planWay v_way1 v_bestWay v_order1 v_placeIn v_bodyKind v_trace v_shelf v_many v_items v_carried) none args s) (F0 m 174 ls [])) : ∀ (x1 : Int32) (x2 : Int32) (x4 : Int32) (x5 : Int32) (x6 : Int32) (x7 : Int32) (x8 : Int32) (x9 : Int32) (x10 : Int32) (x11 : Int32) (x12 : Int32) (x13 : Int32) (s0 : Int32) (v_rowsOf : Int32) (v_columnsOf : Int32) (v_shapeRows : List Int32) (v_shapeColumns : List Int32) (v_row : List Int32) (v_column : List Int32) (v_below : List Int32) (v_face : List Int32) (v_high : List Int32) (v_to : List Int32) (v_pileSize : List Int32) (H : Heap) (locs : List Loc) (ls : Array Slot), fX9_movesAll_263 N k_174 x1 x2 x4 x5 x6 x7 x8 x9 x10 x11 x12 x13 s0 v_rowsOf v_columnsOf v_shapeRows v_shapeColumns v_row v_column v_below v_face v_high v_to v_pileSize = some (w_shapeRows, w_shapeColumns, w_row, w_column, w_below, w_face, w_high, w_to, w_pileSize) → va_P D mm_cl (wd_X9 cI cL cS cH a v_keptMany v_done v_rowsOf v_columnsOf v_folded v_wronged v_tapeMany v_textMany v_base v_at v_ends v_fault v_opened v_bentMany v_bentWrong v_moreWorn v_planned v_allWrong v_allWorn v_z v_wishedField v_isFound v_bestWrong v_bestWorn v_bestMany v_soughtBy v_sought v_soughtAt v_foundMany v_foundOrder v_isKept v_imageRows v_imageColumns v_imageFolded v_imageWronged v_bodies v_ran v_ownKind v_ownNumber v_limit v_changeWas v_changeIs v_shapeRows v_shapeColumns v_row v_column v_below v_face v_worn v_lastBend v_tape v_text v_names v_bends v_high v_to v_pileSize v_planLine v_planWay v_way1 v_bestWay v_order1 v_placeIn v_bodyKind v_trace v_shelf v_many v_items v_carried) H → va_D A (wd_X9 cI cL cS cH a v_keptMany v_done v_rowsOf v_columnsOf v_folded v_wronged v_tapeMany v_textMany v_base v_at v_ends v_fault v_opened v_bentMany v_bentWrong v_moreWorn v_planned v_allWrong v_allWorn v_z v_wishedField v_isFound v_bestWrong v_bestWorn v_bestMany v_soughtBy v_sought v_soughtAt v_foundMany v_foundOrder v_isKept v_imageRows v_imageColumns v_imageFolded v_imageWronged v_bodies v_ran v_ownKind v_ownNumber v_limit v_changeWas v_changeIs v_shapeRows v_shapeColumns v_row v_column v_below v_face v_worn v_lastBend v_tape v_text v_names v_bends v_high v_to v_pileSize v_planLine v_planWay v_way1 v_bestWay v_order1 v_placeIn v_bodyKind v_trace v_shelf v_many v_items v_carried) → va_S A s.heap H locs → lv_has ls 16 [(0, .ref (a 0)), (1, .int x1), (2, .int x2), (4, .int x4), (5, .int x5), (6, .int x6), (7, .int x7), (8, .int x8), (9, .int x9), (10, .int x10), (11, .int x11), (12, .int x12), (13, .int x13)] → W p l e (mm_rr d) s m args below meth c H locs 0 0 (mm_Z below D A (wd_X9 cI cL cS cH a v_keptMany v_done v_rowsOf v_columnsOf v_folded v_wronged v_tapeMany v_textMany v_base v_at v_ends v_fault v_opened v_bentMany v_bentWrong v_moreWorn v_planned v_allWrong v_allWorn v_z v_wishedField v_isFound v_bestWrong v_bestWorn v_bestMany v_soughtBy v_sought v_soughtAt v_foundMany v_foundOrder v_isKept v_imageRows v_imageColumns v_imageFolded v_imageWronged v_bodies v_ran v_ownKind v_ownNumber v_limit v_changeWas v_changeIs w_shapeRows w_shapeColumns w_row w_column w_below w_face v_worn v_lastBend v_tape v_text v_names v_bends w_high w_to w_pileSize v_planLine v_planWay v_way1 v_bestWay v_order1 v_placeIn v_bodyKind v_trace v_shelf v_many v_items v_carried) none args s) (F0 m 263 ls [.int s0]) := by
  obtain ⟨hx, hb, hml, hown, hts, hr, hlocks, hK, hSt⟩ := id C0
  intro x1 x2 x4 x5 x6 x7 x8 x9 x10 x11 x12 x13 s0 v_rowsOf v_columnsOf v_shapeRows v_shapeColumns v_row v_column v_below v_face v_high v_to v_pileSize H locs ls hf hP hD hS hl
  unfold fX9_movesAll_263 at hf
  refine lv_istore (lv' := [(14, .int s0), (0, .ref (a 0)), (1, .int x1), (2, .int x2), (4, .int x4), (5, .int x5), (6, .int x6), (7, .int x7), (8, .int x8), (9, .int x9), (10, .int x10), (11, .int x11), (12, .int x12), (13, .int x13)]) hx hb dX9_movesAll_263 hl (by decide) rfl (fun ls hl => ?_)
  refine lv_iload hx hb dX9_movesAll_265 (lv_at hl 11 rfl) ?_
  refine lv_iload_n hx hb dX9_movesAll_267 rfl (lv_at hl 3 rfl) ?_
  refine lv_icmp_ge (tgt := 275) hx hb dX9_movesAll_268 (by decide) (fun c_46 => ?_) (fun c_46 => ?_)
  · have hf := mm_ip hf c_46
    refine lv_iconst (v := 0) hx hb dX9_movesAll_275 (by decide) ?_
    exact tX9_movesAll_276 hd C0 hA N hk_174 _ _ _ _ _ _ _ _ _ _ _ _ _ _ _ _ _ _ _ _ _ _ _ _ _ H locs ls hf hP hD hS (lv_sub hl [1, 2, 3, 4, 5, 6, 7, 8, 9, 10, 11, 12, 13, 0] rfl)
  · have hf := mm_in hf c_46
    refine lv_iconst (v := 1) hx hb dX9_movesAll_271 (by decide) ?_
    refine lv_goto (tgt := 276) hx hb dX9_movesAll_272 (by decide) ?_
    exact tX9_movesAll_276 hd C0 hA N hk_174 _ _ _ _ _ _ _ _ _ _ _ _ _ _ _ _ _ _ _ _ _ _ _ _ _ H locs ls hf hP hD hS (lv_sub hl [1, 2, 3, 4, 5, 6, 7, 8, 9, 10, 11, 12, 13, 0] rfl)

def fX9_movesAll_217 (N : Nat) (k_174 : Int32 → Int32 → Int32 → Int32 → Int32 → Int32 → Int32 → Int32 → Int32 → Int32 → List Int32 → List Int32 → List Int32 → List Int32 → List Int32 → List Int32 → List Int32 → List Int32 → List Int32 → Option (List Int32 × List Int32 × List Int32 × List Int32 × List Int32 × List Int32 × List Int32 × List Int32 × List Int32)) (x1 : Int32) (x2 : Int32) (x4 : Int32) (x5 : Int32) (x6 : Int32) (x7 : Int32) (x8 : Int32) (x9 : Int32) (x10 : Int32) (x11 : Int32) (s0 : Int32) (s1 : Int32) (s2 : Int32) (v_rowsOf : Int32) (v_columnsOf : Int32) (v_shapeRows : List Int32) (v_shapeColumns : List Int32) (v_row : List Int32) (v_column : List Int32) (v_below : List Int32) (v_face : List Int32) (v_high : List Int32) (v_to : List Int32) (v_pileSize : List Int32) : Option (List Int32 × List Int32 × List Int32 × List Int32 × List Int32 × List Int32 × List Int32 × List Int32 × List Int32) :=
    mm_bd1 (fX9_placeOf N s2 s1 s0 v_row v_column) (fun (r_37 : Int32) =>
    mm_nm (((((2 : Int32) * x2) - (1 : Int32)) - x11)) (fun (y_39 : Int32) =>
    mm_bd1 (fX9_within N ((y_39).toInt64) (0 : Int64) ((x7 - (1 : Int32)).toInt64)) (fun (r_40 : Bool) =>
    if r_40 = false then
    (fX9_movesAll_263 N k_174 x1 x2 x4 x5 x6 x7 x8 x9 x10 x11 r_37 y_39 (0 : Int32) v_rowsOf v_columnsOf v_shapeRows v_shapeColumns v_row v_column v_below v_face v_high v_to v_pileSize)
    else (mm_bd1 (fX9_pileAt N y_39 r_37) (fun (r_43 : Int32) =>
    mm_ck (mm_inb r_43 v_pileSize.length) (fX9_movesAll_263 N k_174 x1 x2 x4 x5 x6 x7 x8 x9 x10 x11 r_37 y_39 (mm_ig v_pileSize r_43) v_rowsOf v_columnsOf v_shapeRows v_shapeColumns v_row v_column v_below v_face v_high v_to v_pileSize))))))

set_option maxHeartbeats 4000000 in
set_option maxRecDepth 100000 in
theorem tX9_movesAll_217 {p : Program} {l : Launch} {e : Env} {s : State} {m : MethodId} {args : Array Value} {below : List Frame} {meth : Method} {c : Code} {D : va_G} {cI cL cS cH : ClassId} {A : Nat → Prop} {d : Nat} {a : Nat → Nat} (hd : 2 ≤ d) (C0 : mm_Cx p s m args meth c RX9 cX9_movesAll 16 none D (mm_T cI cL cS cH) A) (hA : ∀ q, s.heap.size ≤ q → A q) {v_keptMany : Int32} {v_done : Int32} {v_folded : Int32} {v_wronged : Int32} {v_tapeMany : Int32} {v_textMany : Int32} {v_base : Int32} {v_at : Int32} {v_ends : Int32} {v_fault : Int32} {v_opened : Int32} {v_bentMany : Int32} {v_bentWrong : Int32} {v_moreWorn : Int32} {v_planned : Int32} {v_allWrong : Int32} {v_allWorn : Int32} {v_z : Int32} {v_wishedField : Int32} {v_isFound : Bool} {v_bestWrong : Int32} {v_bestWorn : Int32} {v_bestMany : Int32} {v_soughtBy : Int32} {v_sought : Int32} {v_soughtAt : Int32} {v_foundMany : Int32} {v_foundOrder : Int32} {v_isKept : Bool} {v_imageRows : Int32} {v_imageColumns : Int32} {v_imageFolded : Int32} {v_imageWronged : Int32} {v_bodies : Int32} {v_ran : Int32} {v_ownKind : Int32} {v_ownNumber : Int32} {v_limit : List Int32} {v_changeWas : List Int32} {v_changeIs : List Int32} {v_worn : List Int32} {v_lastBend : List Int32} {v_tape : List Int32} {v_text : List Int32} {v_names : List Int32} {v_bends : List Int32} {v_planLine : List Int32} {v_planWay : List Int32} {v_way1 : List Int32} {v_bestWay : List Int32} {v_order1 : List Int32} {v_placeIn : List Int32} {v_bodyKind : List Int32} {v_trace : List Int32} {v_shelf : List Int32} {v_many : List Int32} {v_items : List Int64} {v_carried : List Int64} {w_shapeRows : List Int32} {w_shapeColumns : List Int32} {w_row : List Int32} {w_column : List Int32} {w_below : List Int32} {w_face : List Int32} {w_high : List Int32} {w_to : List Int32} {w_pileSize : List Int32} (N : Nat) {k_174 : Int32 → Int32 → Int32 → Int32 → Int32 → Int32 → Int32 → Int32 → Int32 → Int32 → List Int32 → List Int32 → List Int32 → List Int32 → List Int32 → List Int32 → List Int32 → List Int32 → List Int32 → Option (List Int32 × List Int32 × List Int32 × List Int32 × List Int32 × List Int32 × List Int32 × List Int32 × List Int32)} (hk_174 : ∀ (x1 : Int32) (x2 : Int32) (x4 : Int32) (x5 : Int32) (x6 : Int32) (x7 : Int32) (x8 : Int32) (x9 : Int32) (v_rowsOf : Int32) (v_columnsOf : Int32) (v_shapeRows : List Int32) (v_shapeColumns : List Int32) (v_row : List Int32) (v_column : List Int32) (v_below : List Int32) (v_face : List Int32) (v_high : List Int32) (v_to : List Int32) (v_pileSize : List Int32) (H : Heap) (locs : List Loc) (ls : Array Slot), k_174 x1 x2 x4 x5 x6 x7 x8 x9 v_rowsOf v_columnsOf v_shapeRows v_shapeColumns v_row v_column v_below v_face v_high v_to v_pileSize = some (w_shapeRows, w_shapeColumns, w_row, w_column, w_below, w_face, w_high, w_to, w_pileSize) → va_P D mm_cl (wd_X9 cI cL cS cH a v_keptMany v_done v_rowsOf v_columnsOf v_folded v_wronged v_tapeMany v_textMany v_base v_at v_ends v_fault v_opened v_bentMany v_bentWrong v_moreWorn v_planned v_allWrong v_allWorn v_z v_wishedField v_isFound v_bestWrong v_bestWorn v_bestMany v_soughtBy v_sought v_soughtAt v_foundMany v_foundOrder v_isKept v_imageRows v_imageColumns v_imageFolded v_imageWronged v_bodies v_ran v_ownKind v_ownNumber v_limit v_changeWas v_changeIs v_shapeRows v_shapeColumns v_row v_column v_below v_face v_worn v_lastBend v_tape v_text v_names v_bends v_high v_to v_pileSize v_planLine v_planWay v_way1 v_bestWay v_order1 v_placeIn v_bodyKind v_trace v_shelf v_many v_items v_carried) H → va_D A (wd_X9 cI cL cS cH a v_keptMany v_done v_rowsOf v_columnsOf v_folded v_wronged v_tapeMany v_textMany v_base v_at v_ends v_fault v_opened v_bentMany v_bentWrong v_moreWorn v_planned v_allWrong v_allWorn v_z v_wishedField v_isFound v_bestWrong v_bestWorn v_bestMany v_soughtBy v_sought v_soughtAt v_foundMany v_foundOrder v_isKept v_imageRows v_imageColumns v_imageFolded v_imageWronged v_bodies v_ran v_ownKind v_ownNumber v_limit v_changeWas v_changeIs v_shapeRows v_shapeColumns v_row v_column v_below v_face v_worn v_lastBend v_tape v_text v_names v_bends v_high v_to v_pileSize v_planLine v_planWay v_way1 v_bestWay v_order1 v_placeIn v_bodyKind v_trace v_shelf v_many v_items v_carried) → va_S A s.heap H locs → lv_has ls 16 [(0, .ref (a 0)), (1, .int x1), (2, .int x2), (4, .int x4), (5, .int x5), (6, .int x6), (7, .int x7), (8, .int x8), (9, .int x9)] → W p l e (mm_rr d) s m args below meth c H locs 0 0 (mm_Z below D A (wd_X9 cI cL cS cH a v_keptMany v_done v_rowsOf v_columnsOf v_folded v_wronged v_tapeMany v_textMany v_base v_at v_ends v_fault v_opened v_bentMany v_bentWrong v_moreWorn v_planned v_allWrong v_allWorn v_z v_wishedField v_isFound v_bestWrong v_bestWorn v_bestMany v_soughtBy v_sought v_soughtAt v_foundMany v_foundOrder v_isKept v_imageRows v_imageColumns v_imageFolded v_imageWronged v_bodies v_ran v_ownKind v_ownNumber v_limit v_changeWas v_changeIs w_shapeRows w_shapeColumns w_row w_column w_below w_face v_worn v_lastBend v_tape v_text v_names v_bends w_high w_to w_pileSize v_planLine v_planWay v_way1 v_bestWay v_order1 v_placeIn v_bodyKind v_trace v_shelf v_many v_items v_carried) none args s) (F0 m 174 ls [])) : ∀ (x1 : Int32) (x2 : Int32) (x4 : Int32) (x5 : Int32) (x6 : Int32) (x7 : Int32) (x8 : Int32) (x9 : Int32) (x10 : Int32) (x11 : Int32) (s0 : Int32) (s1 : Int32) (s2 : Int32) (v_rowsOf : Int32) (v_columnsOf : Int32) (v_shapeRows : List Int32) (v_shapeColumns : List Int32) (v_row : List Int32) (v_column : List Int32) (v_below : List Int32) (v_face : List Int32) (v_high : List Int32) (v_to : List Int32) (v_pileSize : List Int32) (H : Heap) (locs : List Loc) (ls : Array Slot), fX9_movesAll_217 N k_174 x1 x2 x4 x5 x6 x7 x8 x9 x10 x11 s0 s1 s2 v_rowsOf v_columnsOf v_shapeRows v_shapeColumns v_row v_column v_below v_face v_high v_to v_pileSize = some (w_shapeRows, w_shapeColumns, w_row, w_column, w_below, w_face, w_high, w_to, w_pileSize) → va_P D mm_cl (wd_X9 cI cL cS cH a v_keptMany v_done v_rowsOf v_columnsOf v_folded v_wronged v_tapeMany v_textMany v_base v_at v_ends v_fault v_opened v_bentMany v_bentWrong v_moreWorn v_planned v_allWrong v_allWorn v_z v_wishedField v_isFound v_bestWrong v_bestWorn v_bestMany v_soughtBy v_sought v_soughtAt v_foundMany v_foundOrder v_isKept v_imageRows v_imageColumns v_imageFolded v_imageWronged v_bodies v_ran v_ownKind v_ownNumber v_limit v_changeWas v_changeIs v_shapeRows v_shapeColumns v_row v_column v_below v_face v_worn v_lastBend v_tape v_text v_names v_bends v_high v_to v_pileSize v_planLine v_planWay v_way1 v_bestWay v_order1 v_placeIn v_bodyKind v_trace v_shelf v_many v_items v_carried) H → va_D A (wd_X9 cI cL cS cH a v_keptMany v_done v_rowsOf v_columnsOf v_folded v_wronged v_tapeMany v_textMany v_base v_at v_ends v_fault v_opened v_bentMany v_bentWrong v_moreWorn v_planned v_allWrong v_allWorn v_z v_wishedField v_isFound v_bestWrong v_bestWorn v_bestMany v_soughtBy v_sought v_soughtAt v_foundMany v_foundOrder v_isKept v_imageRows v_imageColumns v_imageFolded v_imageWronged v_bodies v_ran v_ownKind v_ownNumber v_limit v_changeWas v_changeIs v_shapeRows v_shapeColumns v_row v_column v_below v_face v_worn v_lastBend v_tape v_text v_names v_bends v_high v_to v_pileSize v_planLine v_planWay v_way1 v_bestWay v_order1 v_placeIn v_bodyKind v_trace v_shelf v_many v_items v_carried) → va_S A s.heap H locs → lv_has ls 16 [(0, .ref (a 0)), (1, .int x1), (2, .int x2), (4, .int x4), (5, .int x5), (6, .int x6), (7, .int x7), (8, .int x8), (9, .int x9), (10, .int x10), (11, .int x11)] → W p l e (mm_rr d) s m args below meth c H locs 0 0 (mm_Z below D A (wd_X9 cI cL cS cH a v_keptMany v_done v_rowsOf v_columnsOf v_folded v_wronged v_tapeMany v_textMany v_base v_at v_ends v_fault v_opened v_bentMany v_bentWrong v_moreWorn v_planned v_allWrong v_allWorn v_z v_wishedField v_isFound v_bestWrong v_bestWorn v_bestMany v_soughtBy v_sought v_soughtAt v_foundMany v_foundOrder v_isKept v_imageRows v_imageColumns v_imageFolded v_imageWronged v_bodies v_ran v_ownKind v_ownNumber v_limit v_changeWas v_changeIs w_shapeRows w_shapeColumns w_row w_column w_below w_face v_worn v_lastBend v_tape v_text v_names v_bends w_high w_to w_pileSize v_planLine v_planWay v_way1 v_bestWay v_order1 v_placeIn v_bodyKind v_trace v_shelf v_many v_items v_carried) none args s) (F0 m 217 ls [.int s0, .int s1, .int s2, .ref (a 0)]) := by
  obtain ⟨hx, hb, hml, hown, hts, hr, hlocks, hK, hSt⟩ := id C0
  intro x1 x2 x4 x5 x6 x7 x8 x9 x10 x11 s0 s1 s2 v_rowsOf v_columnsOf v_shapeRows v_shapeColumns v_row v_column v_below v_face v_high v_to v_pileSize H locs ls hf hP hD hS hl
  unfold fX9_movesAll_217 at hf
  obtain ⟨r_37, hc_38, hf⟩ := mm_bd1s hf
  refine mm_callVF (q0 := 0) (ci := 9) (rest := []) C0 lk_X9_204 (ctX9_placeOf (a := a) (d := d - 1) (by omega) hc_38) (by omega) rfl hl.1 rfl (mm_cat rfl) dX9_movesAll_217 hP hD hA hS rfl rfl (fun H locs hP hD hS => ?_)
  refine W.eq (g2 := F0 m 220 ls [.int r_37]) rfl ?_
  refine lv_istore (lv' := [(12, .int r_37), (0, .ref (a 0)), (1, .int x1), (2, .int x2), (4, .int x4), (5, .int x5), (6, .int x6), (7, .int x7), (8, .int x8), (9, .int x9), (10, .int x10), (11, .int x11)]) hx hb dX9_movesAll_220 hl (by decide) rfl (fun ls hl => ?_)
  refine lv_iconst (v := 2) hx hb dX9_movesAll_222 (by decide) ?_
  refine lv_iload_n hx hb dX9_movesAll_223 rfl (lv_at hl 3 rfl) ?_
  refine lv_imul hx hb dX9_movesAll_224 ?_
  refine lv_iconst (v := 1) hx hb dX9_movesAll_225 (by decide) ?_
  refine lv_isub hx hb dX9_movesAll_226 ?_
  refine lv_iload hx hb dX9_movesAll_227 (lv_at hl 11 rfl) ?_
  refine lv_isub hx hb dX9_movesAll_229 ?_
  refine lv_topi (fun y_39 ey_39 => ?_)
  have hf := mm_nms hf ey_39
  refine lv_istore (lv' := [(13, .int y_39), (12, .int r_37), (0, .ref (a 0)), (1, .int x1), (2, .int x2), (4, .int x4), (5, .int x5), (6, .int x6), (7, .int x7), (8, .int x8), (9, .int x9), (10, .int x10), (11, .int x11)]) hx hb dX9_movesAll_230 hl (by decide) rfl (fun ls hl => ?_)
  refine lv_iload hx hb dX9_movesAll_232 (lv_at hl 0 rfl) ?_
  refine lv_i2l hx hb dX9_movesAll_234 rfl ?_
  refine lv_lconst (v := 0) hx hb dX9_movesAll_235 (by decide) ?_
  refine lv_iload hx hb dX9_movesAll_236 (lv_at hl 8 rfl) ?_
  refine lv_iconst (v := 1) hx hb dX9_movesAll_238 (by decide) ?_
  refine lv_isub hx hb dX9_movesAll_239 ?_
  refine lv_i2l hx hb dX9_movesAll_240 rfl ?_
  obtain ⟨r_40, hc_41, hf⟩ := mm_bd1s hf
  refine mm_callS0 (rest := []) C0 lk_X9_111 (ctX9_within (d := d - 1) (by omega) hc_41) (by omega) rfl hl.1 rfl (mm_cat rfl) dX9_movesAll_241 hP hD hA hS (fun H locs hP hS => ?_)
  refine W.eq (g2 := F0 m 244 ls [.int (mm_b r_40)]) rfl ?_
  refine lv_if_eq (tgt := 262) hx hb dX9_movesAll_244 (by decide) (fun c_42 => ?_) (fun c_42 => ?_)
  · have hf := mm_ip hf (mm_b0 c_42)
    refine lv_iconst (v := 0) hx hb dX9_movesAll_262 (by decide) ?_
    exact tX9_movesAll_263 hd C0 hA N hk_174 _ _ _ _ _ _ _ _ _ _ _ _ _ _ _ _ _ _ _ _ _ _ _ _ H locs ls hf hP hD hS (lv_sub hl [2, 3, 4, 5, 6, 7, 8, 9, 10, 11, 12, 1, 0] rfl)
  · have hf := mm_in hf (mm_b1 c_42)
    refine lv_aload_n hx hb dX9_movesAll_247 rfl (lv_at hl 2 rfl) ?_
    refine mm_get C0 hP iw_X9 0 rfl rfl 33 (by decide) fl_X9_61 rfl dX9_movesAll_248 ?_
    refine lv_iload hx hb dX9_movesAll_251 (lv_at hl 0 rfl) ?_
    refine lv_iload hx hb dX9_movesAll_253 (lv_at hl 1 rfl) ?_
    obtain ⟨r_43, hc_44, hf⟩ := mm_bd1s hf
    refine mm_callS0 (rest := [.ref (a 18)]) C0 lk_X9_228 (ctX9_pileAt (d := d - 1) (by omega) hc_44) (by omega) rfl hl.1 rfl (mm_cat rfl) dX9_movesAll_255 hP hD hA hS (fun H locs hP hS => ?_)
    refine W.eq (g2 := F0 m 258 ls [.int r_43, .ref (a 18)]) rfl ?_
    obtain ⟨h_45, hf⟩ := mm_cks hf
    refine mm_iald C0 hP 18 rfl h_45 dX9_movesAll_258 ?_
    refine lv_goto (tgt := 263) hx hb dX9_movesAll_259 (by decide) ?_
    exact tX9_movesAll_263 hd C0 hA N hk_174 _ _ _ _ _ _ _ _ _ _ _ _ _ _ _ _ _ _ _ _ _ _ _ _ H locs ls hf hP hD hS (lv_sub hl [2, 3, 4, 5, 6, 7, 8, 9, 10, 11, 12, 1, 0] rfl)

def fX9_movesAll_485 (N : Nat) (k_411 : Int32 → Int32 → Int32 → Int32 → Int32 → Int32 → Int32 → List Int32 → List Int32 → List Int32 → List Int32 → List Int32 → List Int32 → List Int32 → List Int32 → List Int32 → Option (List Int32 × List Int32 × List Int32 × List Int32 × List Int32 × List Int32 × List Int32 × List Int32 × List Int32)) (x1 : Int32) (x2 : Int32) (x4 : Int32) (x7 : Int32) (x9 : Int32) (v_rowsOf : Int32) (v_columnsOf : Int32) (v_shapeRows : List Int32) (v_shapeColumns : List Int32) (v_row : List Int32) (v_column : List Int32) (v_below : List Int32) (v_face : List Int32) (v_high : List Int32) (v_to : List Int32) (v_pileSize : List Int32) : Option (List Int32 × List Int32 × List Int32 × List Int32 × List Int32 × List Int32 × List Int32 × List Int32 × List Int32) :=
    mm_nm (x9 + (1 : Int32)) (fun (y_89 : Int32) =>
    k_411 x1 x2 x4 x7 y_89 v_rowsOf v_columnsOf v_shapeRows v_shapeColumns v_row v_column v_below v_face v_high v_to v_pileSize)

set_option maxHeartbeats 4000000 in
set_option maxRecDepth 100000 in
theorem tX9_movesAll_485 {p : Program} {l : Launch} {e : Env} {s : State} {m : MethodId} {args : Array Value} {below : List Frame} {meth : Method} {c : Code} {D : va_G} {cI cL cS cH : ClassId} {A : Nat → Prop} {d : Nat} {a : Nat → Nat} (hd : 2 ≤ d) (C0 : mm_Cx p s m args meth c RX9 cX9_movesAll 16 none D (mm_T cI cL cS cH) A) (hA : ∀ q, s.heap.size ≤ q → A q) {v_keptMany : Int32} {v_done : Int32} {v_folded : Int32} {v_wronged : Int32} {v_tapeMany : Int32} {v_textMany : Int32} {v_base : Int32} {v_at : Int32} {v_ends : Int32} {v_fault : Int32} {v_opened : Int32} {v_bentMany : Int32} {v_bentWrong : Int32} {v_moreWorn : Int32} {v_planned : Int32} {v_allWrong : Int32} {v_allWorn : Int32} {v_z : Int32} {v_wishedField : Int32} {v_isFound : Bool} {v_bestWrong : Int32} {v_bestWorn : Int32} {v_bestMany : Int32} {v_soughtBy : Int32} {v_sought : Int32} {v_soughtAt : Int32} {v_foundMany : Int32} {v_foundOrder : Int32} {v_isKept : Bool} {v_imageRows : Int32} {v_imageColumns : Int32} {v_imageFolded : Int32} {v_imageWronged : Int32} {v_bodies : Int32} {v_ran : Int32} {v_ownKind : Int32} {v_ownNumber : Int32} {v_limit : List Int32} {v_changeWas : List Int32} {v_changeIs : List Int32} {v_worn : List Int32} {v_lastBend : List Int32} {v_tape : List Int32} {v_text : List Int32} {v_names : List Int32} {v_bends : List Int32} {v_planLine : List Int32} {v_planWay : List Int32} {v_way1 : List Int32} {v_bestWay : List Int32} {v_order1 : List Int32} {v_placeIn : List Int32} {v_bodyKind : List Int32} {v_trace : List Int32} {v_shelf : List Int32} {v_many : List Int32} {v_items : List Int64} {v_carried : List Int64} {w_shapeRows : List Int32} {w_shapeColumns : List Int32} {w_row : List Int32} {w_column : List Int32} {w_below : List Int32} {w_face : List Int32} {w_high : List Int32} {w_to : List Int32} {w_pileSize : List Int32} (N : Nat) {k_411 : Int32 → Int32 → Int32 → Int32 → Int32 → Int32 → Int32 → List Int32 → List Int32 → List Int32 → List Int32 → List Int32 → List Int32 → List Int32 → List Int32 → List Int32 → Option (List Int32 × List Int32 × List Int32 × List Int32 × List Int32 × List Int32 × List Int32 × List Int32 × List Int32)} (hk_411 : ∀ (x1 : Int32) (x2 : Int32) (x4 : Int32) (x7 : Int32) (x9 : Int32) (v_rowsOf : Int32) (v_columnsOf : Int32) (v_shapeRows : List Int32) (v_shapeColumns : List Int32) (v_row : List Int32) (v_column : List Int32) (v_below : List Int32) (v_face : List Int32) (v_high : List Int32) (v_to : List Int32) (v_pileSize : List Int32) (H : Heap) (locs : List Loc) (ls : Array Slot), k_411 x1 x2 x4 x7 x9 v_rowsOf v_columnsOf v_shapeRows v_shapeColumns v_row v_column v_below v_face v_high v_to v_pileSize = some (w_shapeRows, w_shapeColumns, w_row, w_column, w_below, w_face, w_high, w_to, w_pileSize) → va_P D mm_cl (wd_X9 cI cL cS cH a v_keptMany v_done v_rowsOf v_columnsOf v_folded v_wronged v_tapeMany v_textMany v_base v_at v_ends v_fault v_opened v_bentMany v_bentWrong v_moreWorn v_planned v_allWrong v_allWorn v_z v_wishedField v_isFound v_bestWrong v_bestWorn v_bestMany v_soughtBy v_sought v_soughtAt v_foundMany v_foundOrder v_isKept v_imageRows v_imageColumns v_imageFolded v_imageWronged v_bodies v_ran v_ownKind v_ownNumber v_limit v_changeWas v_changeIs v_shapeRows v_shapeColumns v_row v_column v_below v_face v_worn v_lastBend v_tape v_text v_names v_bends v_high v_to v_pileSize v_planLine v_planWay v_way1 v_bestWay v_order1 v_placeIn v_bodyKind v_trace v_shelf v_many v_items v_carried) H → va_D A (wd_X9 cI cL cS cH a v_keptMany v_done v_rowsOf v_columnsOf v_folded v_wronged v_tapeMany v_textMany v_base v_at v_ends v_fault v_opened v_bentMany v_bentWrong v_moreWorn v_planned v_allWrong v_allWorn v_z v_wishedField v_isFound v_bestWrong v_bestWorn v_bestMany v_soughtBy v_sought v_soughtAt v_foundMany v_foundOrder v_isKept v_imageRows v_imageColumns v_imageFolded v_imageWronged v_bodies v_ran v_ownKind v_ownNumber v_limit v_changeWas v_changeIs v_shapeRows v_shapeColumns v_row v_column v_below v_face v_worn v_lastBend v_tape v_text v_names v_bends v_high v_to v_pileSize v_planLine v_planWay v_way1 v_bestWay v_order1 v_placeIn v_bodyKind v_trace v_shelf v_many v_items v_carried) → va_S A s.heap H locs → lv_has ls 16 [(0, .ref (a 0)), (1, .int x1), (2, .int x2), (4, .int x4), (7, .int x7), (9, .int x9)] → W p l e (mm_rr d) s m args below meth c H locs 0 0 (mm_Z below D A (wd_X9 cI cL cS cH a v_keptMany v_done v_rowsOf v_columnsOf v_folded v_wronged v_tapeMany v_textMany v_base v_at v_ends v_fault v_opened v_bentMany v_bentWrong v_moreWorn v_planned v_allWrong v_allWorn v_z v_wishedField v_isFound v_bestWrong v_bestWorn v_bestMany v_soughtBy v_sought v_soughtAt v_foundMany v_foundOrder v_isKept v_imageRows v_imageColumns v_imageFolded v_imageWronged v_bodies v_ran v_ownKind v_ownNumber v_limit v_changeWas v_changeIs w_shapeRows w_shapeColumns w_row w_column w_below w_face v_worn v_lastBend v_tape v_text v_names v_bends w_high w_to w_pileSize v_planLine v_planWay v_way1 v_bestWay v_order1 v_placeIn v_bodyKind v_trace v_shelf v_many v_items v_carried) none args s) (F0 m 411 ls [])) : ∀ (x1 : Int32) (x2 : Int32) (x4 : Int32) (x7 : Int32) (x9 : Int32) (v_rowsOf : Int32) (v_columnsOf : Int32) (v_shapeRows : List Int32) (v_shapeColumns : List Int32) (v_row : List Int32) (v_column : List Int32) (v_below : List Int32) (v_face : List Int32) (v_high : List Int32) (v_to : List Int32) (v_pileSize : List Int32) (H : Heap) (locs : List Loc) (ls : Array Slot), fX9_movesAll_485 N k_411 x1 x2 x4 x7 x9 v_rowsOf v_columnsOf v_shapeRows v_shapeColumns v_row v_column v_below v_face v_high v_to v_pileSize = some (w_shapeRows, w_shapeColumns, w_row, w_column, w_below, w_face, w_high, w_to, w_pileSize) → va_P D mm_cl (wd_X9 cI cL cS cH a v_keptMany v_done v_rowsOf v_columnsOf v_folded v_wronged v_tapeMany v_textMany v_base v_at v_ends v_fault v_opened v_bentMany v_bentWrong v_moreWorn v_planned v_allWrong v_allWorn v_z v_wishedField v_isFound v_bestWrong v_bestWorn v_bestMany v_soughtBy v_sought v_soughtAt v_foundMany v_foundOrder v_isKept v_imageRows v_imageColumns v_imageFolded v_imageWronged v_bodies v_ran v_ownKind v_ownNumber v_limit v_changeWas v_changeIs v_shapeRows v_shapeColumns v_row v_column v_below v_face v_worn v_lastBend v_tape v_text v_names v_bends v_high v_to v_pileSize v_planLine v_planWay v_way1 v_bestWay v_order1 v_placeIn v_bodyKind v_trace v_shelf v_many v_items v_carried) H → va_D A (wd_X9 cI cL cS cH a v_keptMany v_done v_rowsOf v_columnsOf v_folded v_wronged v_tapeMany v_textMany v_base v_at v_ends v_fault v_opened v_bentMany v_bentWrong v_moreWorn v_planned v_allWrong v_allWorn v_z v_wishedField v_isFound v_bestWrong v_bestWorn v_bestMany v_soughtBy v_sought v_soughtAt v_foundMany v_foundOrder v_isKept v_imageRows v_imageColumns v_imageFolded v_imageWronged v_bodies v_ran v_ownKind v_ownNumber v_limit v_changeWas v_changeIs v_shapeRows v_shapeColumns v_row v_column v_below v_face v_worn v_lastBend v_tape v_text v_names v_bends v_high v_to v_pileSize v_planLine v_planWay v_way1 v_bestWay v_order1 v_placeIn v_bodyKind v_trace v_shelf v_many v_items v_carried) → va_S A s.heap H locs → lv_has ls 16 [(0, .ref (a 0)), (1, .int x1), (2, .int x2), (4, .int x4), (7, .int x7), (9, .int x9)] → W p l e (mm_rr d) s m args below meth c H locs 0 0 (mm_Z below D A (wd_X9 cI cL cS cH a v_keptMany v_done v_rowsOf v_columnsOf v_folded v_wronged v_tapeMany v_textMany v_base v_at v_ends v_fault v_opened v_bentMany v_bentWrong v_moreWorn v_planned v_allWrong v_allWorn v_z v_wishedField v_isFound v_bestWrong v_bestWorn v_bestMany v_soughtBy v_sought v_soughtAt v_foundMany v_foundOrder v_isKept v_imageRows v_imageColumns v_imageFolded v_imageWronged v_bodies v_ran v_ownKind v_ownNumber v_limit v_changeWas v_changeIs w_shapeRows w_shapeColumns w_row w_column w_below w_face v_worn v_lastBend v_tape v_text v_names v_bends w_high w_to w_pileSize v_planLine v_planWay v_way1 v_bestWay v_order1 v_placeIn v_bodyKind v_trace v_shelf v_many v_items v_carried) none args s) (F0 m 485 ls []) := by
  obtain ⟨hx, hb, hml, hown, hts, hr, hlocks, hK, hSt⟩ := id C0
  intro x1 x2 x4 x7 x9 v_rowsOf v_columnsOf v_shapeRows v_shapeColumns v_row v_column v_below v_face v_high v_to v_pileSize H locs ls hf hP hD hS hl
  unfold fX9_movesAll_485 at hf
  obtain ⟨y_89, ey_89⟩ : ∃ z : Int32, z = x9 + (1 : Int32) := ⟨_, rfl⟩
  have hf := mm_nms hf ey_89
  refine lv_iinc (v := y_89) (lv' := [(9, .int y_89), (0, .ref (a 0)), (1, .int x1), (2, .int x2), (4, .int x4), (7, .int x7)]) hx hb dX9_movesAll_485 hl (k := 5) rfl (by rw [ey_89]; rfl) (by decide) rfl (fun ls hl => ?_)
  refine lv_goto (tgt := 411) hx hb dX9_movesAll_488 (by decide) ?_
  exact hk_411 _ _ _ _ _ _ _ _ _ _ _ _ _ _ _ _ H locs ls hf hP hD hS (lv_sub hl [1, 2, 3, 4, 5, 0] rfl)

def fX9_movesAll_507 (N : Nat)  (x1 : Int32) (x4 : Int32) (s0 : Int32) (v_rowsOf : Int32) (v_columnsOf : Int32) (v_shapeRows : List Int32) (v_shapeColumns : List Int32) (v_row : List Int32) (v_column : List Int32) (v_below : List Int32) (v_face : List Int32) (v_high : List Int32) (v_to : List Int32) (v_pileSize : List Int32) : Option (List Int32 × List Int32 × List Int32 × List Int32 × List Int32 × List Int32 × List Int32 × List Int32 × List Int32) :=
    if x4 = 0 then
    (mm_ck (mm_inb x1 v_shapeRows.length) (mm_nm (mm_is v_shapeRows x1 s0) (fun (l_92 : List Int32) =>
    some (l_92, v_shapeColumns, v_row, v_column, v_below, v_face, v_high, v_to, v_pileSize))))
    else (mm_ck (mm_inb x1 v_shapeColumns.length) (mm_nm (mm_is v_shapeColumns x1 s0) (fun (l_94 : List Int32) =>
    some (v_shapeRows, l_94, v_row, v_column, v_below, v_face, v_high, v_to, v_pileSize))))

set_option maxHeartbeats 4000000 in
set_option maxRecDepth 100000 in
theorem tX9_movesAll_507 {p : Program} {l : Launch} {e : Env} {s : State} {m : MethodId} {args : Array Value} {below : List Frame} {meth : Method} {c : Code} {D : va_G} {cI cL cS cH : ClassId} {A : Nat → Prop} {d : Nat} {a : Nat → Nat} (hd : 2 ≤ d) (C0 : mm_Cx p s m args meth c RX9 cX9_movesAll 16 none D (mm_T cI cL cS cH) A) (hA : ∀ q, s.heap.size ≤ q → A q) {v_keptMany : Int32} {v_done : Int32} {v_folded : Int32} {v_wronged : Int32} {v_tapeMany : Int32} {v_textMany : Int32} {v_base : Int32} {v_at : Int32} {v_ends : Int32} {v_fault : Int32} {v_opened : Int32} {v_bentMany : Int32} {v_bentWrong : Int32} {v_moreWorn : Int32} {v_planned : Int32} {v_allWrong : Int32} {v_allWorn : Int32} {v_z : Int32} {v_wishedField : Int32} {v_isFound : Bool} {v_bestWrong : Int32} {v_bestWorn : Int32} {v_bestMany : Int32} {v_soughtBy : Int32} {v_sought : Int32} {v_soughtAt : Int32} {v_foundMany : Int32} {v_foundOrder : Int32} {v_isKept : Bool} {v_imageRows : Int32} {v_imageColumns : Int32} {v_imageFolded : Int32} {v_imageWronged : Int32} {v_bodies : Int32} {v_ran : Int32} {v_ownKind : Int32} {v_ownNumber : Int32} {v_limit : List Int32} {v_changeWas : List Int32} {v_changeIs : List Int32} {v_worn : List Int32} {v_lastBend : List Int32} {v_tape : List Int32} {v_text : List Int32} {v_names : List Int32} {v_bends : List Int32} {v_planLine : List Int32} {v_planWay : List Int32} {v_way1 : List Int32} {v_bestWay : List Int32} {v_order1 : List Int32} {v_placeIn : List Int32} {v_bodyKind : List Int32} {v_trace : List Int32} {v_shelf : List Int32} {v_many : List Int32} {v_items : List Int64} {v_carried : List Int64} {w_shapeRows : List Int32} {w_shapeColumns : List Int32} {w_row : List Int32} {w_column : List Int32} {w_below : List Int32} {w_face : List Int32} {w_high : List Int32} {w_to : List Int32} {w_pileSize : List Int32} (N : Nat)  : ∀ (x1 : Int32) (x4 : Int32) (s0 : Int32) (v_rowsOf : Int32) (v_columnsOf : Int32) (v_shapeRows : List Int32) (v_shapeColumns : List Int32) (v_row : List Int32) (v_column : List Int32) (v_below : List Int32) (v_face : List Int32) (v_high : List Int32) (v_to : List Int32) (v_pileSize : List Int32) (H : Heap) (locs : List Loc) (ls : Array Slot), fX9_movesAll_507 N x1 x4 s0 v_rowsOf v_columnsOf v_shapeRows v_shapeColumns v_row v_column v_below v_face v_high v_to v_pileSize = some (w_shapeRows, w_shapeColumns, w_row, w_column, w_below, w_face, w_high, w_to, w_pileSize) → va_P D mm_cl (wd_X9 cI cL cS cH a v_keptMany v_done v_rowsOf v_columnsOf v_folded v_wronged v_tapeMany v_textMany v_base v_at v_ends v_fault v_opened v_bentMany v_bentWrong v_moreWorn v_planned v_allWrong v_allWorn v_z v_wishedField v_isFound v_bestWrong v_bestWorn v_bestMany v_soughtBy v_sought v_soughtAt v_foundMany v_foundOrder v_isKept v_imageRows v_imageColumns v_imageFolded v_imageWronged v_bodies v_ran v_ownKind v_ownNumber v_limit v_changeWas v_changeIs v_shapeRows v_shapeColumns v_row v_column v_below v_face v_worn v_lastBend v_tape v_text v_names v_bends v_high v_to v_pileSize v_planLine v_planWay v_way1 v_bestWay v_order1 v_placeIn v_bodyKind v_trace v_shelf v_many v_items v_carried) H → va_D A (wd_X9 cI cL cS cH a v_keptMany v_done v_rowsOf v_columnsOf v_folded v_wronged v_tapeMany v_textMany v_base v_at v_ends v_fault v_opened v_bentMany v_bentWrong v_moreWorn v_planned v_allWrong v_allWorn v_z v_wishedField v_isFound v_bestWrong v_bestWorn v_bestMany v_soughtBy v_sought v_soughtAt v_foundMany v_foundOrder v_isKept v_imageRows v_imageColumns v_imageFolded v_imageWronged v_bodies v_ran v_ownKind v_ownNumber v_limit v_changeWas v_changeIs v_shapeRows v_shapeColumns v_row v_column v_below v_face v_worn v_lastBend v_tape v_text v_names v_bends v_high v_to v_pileSize v_planLine v_planWay v_way1 v_bestWay v_order1 v_placeIn v_bodyKind v_trace v_shelf v_many v_items v_carried) → va_S A s.heap H locs → lv_has ls 16 [(0, .ref (a 0)), (1, .int x1), (4, .int x4)] → W p l e (mm_rr d) s m args below meth c H locs 0 0 (mm_Z below D A (wd_X9 cI cL cS cH a v_keptMany v_done v_rowsOf v_columnsOf v_folded v_wronged v_tapeMany v_textMany v_base v_at v_ends v_fault v_opened v_bentMany v_bentWrong v_moreWorn v_planned v_allWrong v_allWorn v_z v_wishedField v_isFound v_bestWrong v_bestWorn v_bestMany v_soughtBy v_sought v_soughtAt v_foundMany v_foundOrder v_isKept v_imageRows v_imageColumns v_imageFolded v_imageWronged v_bodies v_ran v_ownKind v_ownNumber v_limit v_changeWas v_changeIs w_shapeRows w_shapeColumns w_row w_column w_below w_face v_worn v_lastBend v_tape v_text v_names v_bends w_high w_to w_pileSize v_planLine v_planWay v_way1 v_bestWay v_order1 v_placeIn v_bodyKind v_trace v_shelf v_many v_items v_carried) none args s) (F0 m 507 ls [.int s0]) := by
  obtain ⟨hx, hb, hml, hown, hts, hr, hlocks, hK, hSt⟩ := id C0
  intro x1 x4 s0 v_rowsOf v_columnsOf v_shapeRows v_shapeColumns v_row v_column v_below v_face v_high v_to v_pileSize H locs ls hf hP hD hS hl
  unfold fX9_movesAll_507 at hf
  refine lv_istore (lv' := [(9, .int s0), (0, .ref (a 0)), (1, .int x1), (4, .int x4)]) hx hb dX9_movesAll_507 hl (by decide) rfl (fun ls hl => ?_)
  refine lv_iload hx hb dX9_movesAll_509 (lv_at hl 3 rfl) ?_
  refine lv_if_eq (tgt := 525) hx hb dX9_movesAll_511 (by decide) (fun c_90 => ?_) (fun c_90 => ?_)
  · have hf := mm_ip hf c_90
    refine lv_aload_n hx hb dX9_movesAll_525 rfl (lv_at hl 1 rfl) ?_
    refine mm_get C0 hP iw_X9 0 rfl rfl 7 (by decide) fl_X9_19 rfl dX9_movesAll_526 ?_
    refine lv_iload_n hx hb dX9_movesAll_529 rfl (lv_at hl 2 rfl) ?_
    refine lv_iload hx hb dX9_movesAll_530 (lv_at hl 0 rfl) ?_
    obtain ⟨h_91, hf⟩ := mm_cks hf
    refine mm_iast C0 hP hD hS 4 rfl h_91 dX9_movesAll_532 (w2 := (wd_X9 cI cL cS cH a v_keptMany v_done v_rowsOf v_columnsOf v_folded v_wronged v_tapeMany v_textMany v_base v_at v_ends v_fault v_opened v_bentMany v_bentWrong v_moreWorn v_planned v_allWrong v_allWorn v_z v_wishedField v_isFound v_bestWrong v_bestWorn v_bestMany v_soughtBy v_sought v_soughtAt v_foundMany v_foundOrder v_isKept v_imageRows v_imageColumns v_imageFolded v_imageWronged v_bodies v_ran v_ownKind v_ownNumber v_limit v_changeWas v_changeIs (mm_is v_shapeRows x1 s0) v_shapeColumns v_row v_column v_below v_face v_worn v_lastBend v_tape v_text v_names v_bends v_high v_to v_pileSize v_planLine v_planWay v_way1 v_bestWay v_order1 v_placeIn v_bodyKind v_trace v_shelf v_many v_items v_carried)) rfl (fun H locs hP hD hS => ?_)
    generalize el_92 : (mm_is v_shapeRows x1 s0) = l_92 at hP hD
    have hf := mm_nms hf el_92.symm
    apply mm_sub9 hf
    exact mm_vret C0 hP hD hS dX9_movesAll_533
  · have hf := mm_in hf c_90
    refine lv_aload_n hx hb dX9_movesAll_514 rfl (lv_at hl 1 rfl) ?_
    refine mm_get C0 hP iw_X9 0 rfl rfl 8 (by decide) fl_X9_22 rfl dX9_movesAll_515 ?_
    refine lv_iload_n hx hb dX9_movesAll_518 rfl (lv_at hl 2 rfl) ?_
    refine lv_iload hx hb dX9_movesAll_519 (lv_at hl 0 rfl) ?_
    obtain ⟨h_93, hf⟩ := mm_cks hf
    refine mm_iast C0 hP hD hS 5 rfl h_93 dX9_movesAll_521 (w2 := (wd_X9 cI cL cS cH a v_keptMany v_done v_rowsOf v_columnsOf v_folded v_wronged v_tapeMany v_textMany v_base v_at v_ends v_fault v_opened v_bentMany v_bentWrong v_moreWorn v_planned v_allWrong v_allWorn v_z v_wishedField v_isFound v_bestWrong v_bestWorn v_bestMany v_soughtBy v_sought v_soughtAt v_foundMany v_foundOrder v_isKept v_imageRows v_imageColumns v_imageFolded v_imageWronged v_bodies v_ran v_ownKind v_ownNumber v_limit v_changeWas v_changeIs v_shapeRows (mm_is v_shapeColumns x1 s0) v_row v_column v_below v_face v_worn v_lastBend v_tape v_text v_names v_bends v_high v_to v_pileSize v_planLine v_planWay v_way1 v_bestWay v_order1 v_placeIn v_bodyKind v_trace v_shelf v_many v_items v_carried)) rfl (fun H locs hP hD hS => ?_)
    generalize el_94 : (mm_is v_shapeColumns x1 s0) = l_94 at hP hD
    have hf := mm_nms hf el_94.symm
    refine lv_goto (tgt := 533) hx hb dX9_movesAll_522 (by decide) ?_
    apply mm_sub9 hf
    exact mm_vret C0 hP hD hS dX9_movesAll_533

def fX9_movesAll_411 (N : Nat)  : Nat → Int32 → Int32 → Int32 → Int32 → Int32 → Int32 → Int32 → List Int32 → List Int32 → List Int32 → List Int32 → List Int32 → List Int32 → List Int32 → List Int32 → List Int32 → Option (List Int32 × List Int32 × List Int32 × List Int32 × List Int32 × List Int32 × List Int32 × List Int32 × List Int32)
  | 0 => fun _ _ _ _ _ _ _ _ _ _ _ _ _ _ _ _ => none
  | n + 1 => fun x1 x2 x4 x7 x9 v_rowsOf v_columnsOf v_shapeRows v_shapeColumns v_row v_column v_below v_face v_high v_to v_pileSize =>
    mm_bd1 (fX9_fields N v_rowsOf v_columnsOf) (fun (r_72 : Int32) =>
    if r_72 ≤ x9 then
    (if x2 ≤ (x7 - x2) then
    (fX9_movesAll_507 N x1 x4 (x7 - x2) v_rowsOf v_columnsOf v_shapeRows v_shapeColumns v_row v_column v_below v_face v_high v_to v_pileSize)
    else (fX9_movesAll_507 N x1 x4 x2 v_rowsOf v_columnsOf v_shapeRows v_shapeColumns v_row v_column v_below v_face v_high v_to v_pileSize))
    else (mm_ck (mm_inb x9 v_high.length) (mm_nm ((mm_ig v_high x9)) (fun (y_77 : Int32) =>
    mm_ck (mm_inb (((32 : Int32) * x1) + x9) v_below.length) (mm_nm (mm_is v_below (((32 : Int32) * x1) + x9) y_77) (fun (l_79 : List Int32) =>
    if x4 = 0 then
    (mm_ck (mm_inb x9 v_to.length) (mm_nm ((mm_ig v_to x9)) (fun (y_82 : Int32) =>
    mm_ck (mm_inb (((32 : Int32) * x1) + x9) v_row.length) (mm_nm (mm_is v_row (((32 : Int32) * x1) + x9) y_82) (fun (l_84 : List Int32) =>
    fX9_movesAll_485 N (fX9_movesAll_411 N n) x1 x2 x4 x7 x9 v_rowsOf v_columnsOf v_shapeRows v_shapeColumns l_84 v_column l_79 v_face v_high v_to v_pileSize)))))
    else (mm_ck (mm_inb x9 v_to.length) (mm_nm ((mm_ig v_to x9)) (fun (y_86 : Int32) =>
    mm_ck (mm_inb (((32 : Int32) * x1) + x9) v_column.length) (mm_nm (mm_is v_column (((32 : Int32) * x1) + x9) y_86) (fun (l_88 : List Int32) =>
    fX9_movesAll_485 N (fX9_movesAll_411 N n) x1 x2 x4 x7 x9 v_rowsOf v_columnsOf v_shapeRows v_shapeColumns v_row l_88 l_79 v_face v_high v_to v_pileSize)))))))))))

set_option maxHeartbeats 4000000 in
set_option maxRecDepth 100000 in
theorem tX9_movesAll_411 {p : Program} {l : Launch} {e : Env} {s : State} {m : MethodId} {args : Array Value} {below : List Frame} {meth : Method} {c : Code} {D : va_G} {cI cL cS cH : ClassId} {A : Nat → Prop} {d : Nat} {a : Nat → Nat} (hd : 2 ≤ d) (C0 : mm_Cx p s m args meth c RX9 cX9_movesAll 16 none D (mm_T cI cL cS cH) A) (hA : ∀ q, s.heap.size ≤ q → A q) {v_keptMany : Int32} {v_done : Int32} {v_folded : Int32} {v_wronged : Int32} {v_tapeMany : Int32} {v_textMany : Int32} {v_base : Int32} {v_at : Int32} {v_ends : Int32} {v_fault : Int32} {v_opened : Int32} {v_bentMany : Int32} {v_bentWrong : Int32} {v_moreWorn : Int32} {v_planned : Int32} {v_allWrong : Int32} {v_allWorn : Int32} {v_z : Int32} {v_wishedField : Int32} {v_isFound : Bool} {v_bestWrong : Int32} {v_bestWorn : Int32} {v_bestMany : Int32} {v_soughtBy : Int32} {v_sought : Int32} {v_soughtAt : Int32} {v_foundMany : Int32} {v_foundOrder : Int32} {v_isKept : Bool} {v_imageRows : Int32} {v_imageColumns : Int32} {v_imageFolded : Int32} {v_imageWronged : Int32} {v_bodies : Int32} {v_ran : Int32} {v_ownKind : Int32} {v_ownNumber : Int32} {v_limit : List Int32} {v_changeWas : List Int32} {v_changeIs : List Int32} {v_worn : List Int32} {v_lastBend : List Int32} {v_tape : List Int32} {v_text : List Int32} {v_names : List Int32} {v_bends : List Int32} {v_planLine : List Int32} {v_planWay : List Int32} {v_way1 : List Int32} {v_bestWay : List Int32} {v_order1 : List Int32} {v_placeIn : List Int32} {v_bodyKind : List Int32} {v_trace : List Int32} {v_shelf : List Int32} {v_many : List Int32} {v_items : List Int64} {v_carried : List Int64} {w_shapeRows : List Int32} {w_shapeColumns : List Int32} {w_row : List Int32} {w_column : List Int32} {w_below : List Int32} {w_face : List Int32} {w_high : List Int32} {w_to : List Int32} {w_pileSize : List Int32} (N : Nat)  : ∀ (n : Nat), ∀ (x1 : Int32) (x2 : Int32) (x4 : Int32) (x7 : Int32) (x9 : Int32) (v_rowsOf : Int32) (v_columnsOf : Int32) (v_shapeRows : List Int32) (v_shapeColumns : List Int32) (v_row : List Int32) (v_column : List Int32) (v_below : List Int32) (v_face : List Int32) (v_high : List Int32) (v_to : List Int32) (v_pileSize : List Int32) (H : Heap) (locs : List Loc) (ls : Array Slot), fX9_movesAll_411 N n x1 x2 x4 x7 x9 v_rowsOf v_columnsOf v_shapeRows v_shapeColumns v_row v_column v_below v_face v_high v_to v_pileSize = some (w_shapeRows, w_shapeColumns, w_row, w_column, w_below, w_face, w_high, w_to, w_pileSize) → va_P D mm_cl (wd_X9 cI cL cS cH a v_keptMany v_done v_rowsOf v_columnsOf v_folded v_wronged v_tapeMany v_textMany v_base v_at v_ends v_fault v_opened v_bentMany v_bentWrong v_moreWorn v_planned v_allWrong v_allWorn v_z v_wishedField v_isFound v_bestWrong v_bestWorn v_bestMany v_soughtBy v_sought v_soughtAt v_foundMany v_foundOrder v_isKept v_imageRows v_imageColumns v_imageFolded v_imageWronged v_bodies v_ran v_ownKind v_ownNumber v_limit v_changeWas v_changeIs v_shapeRows v_shapeColumns v_row v_column v_below v_face v_worn v_lastBend v_tape v_text v_names v_bends v_high v_to v_pileSize v_planLine v_planWay v_way1 v_bestWay v_order1 v_placeIn v_bodyKind v_trace v_shelf v_many v_items v_carried) H → va_D A (wd_X9 cI cL cS cH a v_keptMany v_done v_rowsOf v_columnsOf v_folded v_wronged v_tapeMany v_textMany v_base v_at v_ends v_fault v_opened v_bentMany v_bentWrong v_moreWorn v_planned v_allWrong v_allWorn v_z v_wishedField v_isFound v_bestWrong v_bestWorn v_bestMany v_soughtBy v_sought v_soughtAt v_foundMany v_foundOrder v_isKept v_imageRows v_imageColumns v_imageFolded v_imageWronged v_bodies v_ran v_ownKind v_ownNumber v_limit v_changeWas v_changeIs v_shapeRows v_shapeColumns v_row v_column v_below v_face v_worn v_lastBend v_tape v_text v_names v_bends v_high v_to v_pileSize v_planLine v_planWay v_way1 v_bestWay v_order1 v_placeIn v_bodyKind v_trace v_shelf v_many v_items v_carried) → va_S A s.heap H locs → lv_has ls 16 [(0, .ref (a 0)), (1, .int x1), (2, .int x2), (4, .int x4), (7, .int x7), (9, .int x9)] → W p l e (mm_rr d) s m args below meth c H locs 0 0 (mm_Z below D A (wd_X9 cI cL cS cH a v_keptMany v_done v_rowsOf v_columnsOf v_folded v_wronged v_tapeMany v_textMany v_base v_at v_ends v_fault v_opened v_bentMany v_bentWrong v_moreWorn v_planned v_allWrong v_allWorn v_z v_wishedField v_isFound v_bestWrong v_bestWorn v_bestMany v_soughtBy v_sought v_soughtAt v_foundMany v_foundOrder v_isKept v_imageRows v_imageColumns v_imageFolded v_imageWronged v_bodies v_ran v_ownKind v_ownNumber v_limit v_changeWas v_changeIs w_shapeRows w_shapeColumns w_row w_column w_below w_face v_worn v_lastBend v_tape v_text v_names v_bends w_high w_to w_pileSize v_planLine v_planWay v_way1 v_bestWay v_order1 v_placeIn v_bodyKind v_trace v_shelf v_many v_items v_carried) none args s) (F0 m 411 ls []) := by
  obtain ⟨hx, hb, hml, hown, hts, hr, hlocks, hK, hSt⟩ := id C0
  intro n
  induction n with
  | zero =>
    intro x1 x2 x4 x7 x9 v_rowsOf v_columnsOf v_shapeRows v_shapeColumns v_row v_column v_below v_face v_high v_to v_pileSize H locs ls hf
    cases (show none = some _ from hf)
  | succ n ih =>
    intro x1 x2 x4 x7 x9 v_rowsOf v_columnsOf v_shapeRows v_shapeColumns v_row v_column v_below v_face v_high v_to v_pileSize H locs ls hf hP hD hS hl
    unfold fX9_movesAll_411 at hf
    refine lv_iload hx hb dX9_movesAll_411 (lv_at hl 5 rfl) ?_
    refine lv_aload_n hx hb dX9_movesAll_413 rfl (lv_at hl 0 rfl) ?_
    obtain ⟨r_72, hc_73, hf⟩ := mm_bd1s hf
    refine mm_callVF (q0 := 0) (ci := 9) (rest := [.int x9]) C0 lk_X9_127 (ctX9_fields (a := a) (d := d - 1) (by omega) hc_73) (by omega) rfl hl.1 rfl (mm_cat rfl) dX9_movesAll_414 hP hD hA hS rfl rfl (fun H locs hP hD hS => ?_)
    refine W.eq (g2 := F0 m 417 ls [.int r_72, .int x9]) rfl ?_
    refine lv_icmp_ge (tgt := 491) hx hb dX9_movesAll_417 (by decide) (fun c_74 => ?_) (fun c_74 => ?_)
    · have hf := mm_ip hf c_74
      refine lv_iload_n hx hb dX9_movesAll_491 rfl (lv_at hl 2 rfl) ?_
      refine lv_iload hx hb dX9_movesAll_492 (lv_at hl 4 rfl) ?_
      refine lv_iload_n hx hb dX9_movesAll_494 rfl (lv_at hl 2 rfl) ?_
      refine lv_isub hx hb dX9_movesAll_495 ?_
      refine lv_icmp_le (tgt := 503) hx hb dX9_movesAll_496 (by decide) (fun c_75 => ?_) (fun c_75 => ?_)
      · have hf := mm_ip hf c_75
        refine lv_iload hx hb dX9_movesAll_503 (lv_at hl 4 rfl) ?_
        refine lv_iload_n hx hb dX9_movesAll_505 rfl (lv_at hl 2 rfl) ?_
        refine lv_isub hx hb dX9_movesAll_506 ?_
        exact tX9_movesAll_507 hd C0 hA N  _ _ _ _ _ _ _ _ _ _ _ _ _ _ H locs ls hf hP hD hS (lv_sub hl [0, 1, 3] rfl)
      · have hf := mm_in hf c_75
        refine lv_iload_n hx hb dX9_movesAll_499 rfl (lv_at hl 2 rfl) ?_
        refine lv_goto (tgt := 507) hx hb dX9_movesAll_500 (by decide) ?_
        exact tX9_movesAll_507 hd C0 hA N  _ _ _ _ _ _ _ _ _ _ _ _ _ _ H locs ls hf hP hD hS (lv_sub hl [0, 1, 3] rfl)
    · have hf := mm_in hf c_74
      refine lv_aload_n hx hb dX9_movesAll_420 rfl (lv_at hl 0 rfl) ?_
      refine mm_get C0 hP iw_X9 0 rfl rfl 11 (by decide) fl_X9_31 rfl dX9_movesAll_421 ?_
      refine lv_bipush (v := 32) hx hb dX9_movesAll_424 (by decide) ?_
      refine lv_iload_n hx hb dX9_movesAll_426 rfl (lv_at hl 1 rfl) ?_
      refine lv_imul hx hb dX9_movesAll_427 ?_
      refine lv_iload hx hb dX9_movesAll_428 (lv_at hl 5 rfl) ?_
      refine lv_iadd hx hb dX9_movesAll_430 ?_
      refine lv_aload_n hx hb dX9_movesAll_431 rfl (lv_at hl 0 rfl) ?_
      refine mm_get C0 hP iw_X9 0 rfl rfl 31 (by decide) fl_X9_55 rfl dX9_movesAll_432 ?_
      refine lv_iload hx hb dX9_movesAll_435 (lv_at hl 5 rfl) ?_
      obtain ⟨h_76, hf⟩ := mm_cks hf
      refine mm_iald C0 hP 16 rfl h_76 dX9_movesAll_437 ?_
      refine lv_topi (fun y_77 ey_77 => ?_)
      have hf := mm_nms hf ey_77
      obtain ⟨h_78, hf⟩ := mm_cks hf
      refine mm_iast C0 hP hD hS 8 rfl h_78 dX9_movesAll_438 (w2 := (wd_X9 cI cL cS cH a v_keptMany v_done v_rowsOf v_columnsOf v_folded v_wronged v_tapeMany v_textMany v_base v_at v_ends v_fault v_opened v_bentMany v_bentWrong v_moreWorn v_planned v_allWrong v_allWorn v_z v_wishedField v_isFound v_bestWrong v_bestWorn v_bestMany v_soughtBy v_sought v_soughtAt v_foundMany v_foundOrder v_isKept v_imageRows v_imageColumns v_imageFolded v_imageWronged v_bodies v_ran v_ownKind v_ownNumber v_limit v_changeWas v_changeIs v_shapeRows v_shapeColumns v_row v_column (mm_is v_below (((32 : Int32) * x1) + x9) y_77) v_face v_worn v_lastBend v_tape v_text v_names v_bends v_high v_to v_pileSize v_planLine v_planWay v_way1 v_bestWay v_order1 v_placeIn v_bodyKind v_trace v_shelf v_many v_items v_carried)) rfl (fun H locs hP hD hS => ?_)
      generalize el_79 : (mm_is v_below (((32 : Int32) * x1) + x9) y_77) = l_79 at hP hD
      have hf := mm_nms hf el_79.symm
      refine lv_iload hx hb dX9_movesAll_439 (lv_at hl 3 rfl) ?_
      refine lv_if_eq (tgt := 466) hx hb dX9_movesAll_441 (by decide) (fun c_80 => ?_) (fun c_80 => ?_)
      · have hf := mm_ip hf c_80
        refine lv_aload_n hx hb dX9_movesAll_466 rfl (lv_at hl 0 rfl) ?_
        refine mm_get C0 hP iw_X9 0 rfl rfl 9 (by decide) fl_X9_25 rfl dX9_movesAll_467 ?_
        refine lv_bipush (v := 32) hx hb dX9_movesAll_470 (by decide) ?_
        refine lv_iload_n hx hb dX9_movesAll_472 rfl (lv_at hl 1 rfl) ?_
        refine lv_imul hx hb dX9_movesAll_473 ?_
        refine lv_iload hx hb dX9_movesAll_474 (lv_at hl 5 rfl) ?_
        refine lv_iadd hx hb dX9_movesAll_476 ?_
        refine lv_aload_n hx hb dX9_movesAll_477 rfl (lv_at hl 0 rfl) ?_
        refine mm_get C0 hP iw_X9 0 rfl rfl 32 (by decide) fl_X9_58 rfl dX9_movesAll_478 ?_
        refine lv_iload hx hb dX9_movesAll_481 (lv_at hl 5 rfl) ?_
        obtain ⟨h_81, hf⟩ := mm_cks hf
        refine mm_iald C0 hP 17 rfl h_81 dX9_movesAll_483 ?_
        refine lv_topi (fun y_82 ey_82 => ?_)
        have hf := mm_nms hf ey_82
        obtain ⟨h_83, hf⟩ := mm_cks hf
        refine mm_iast C0 hP hD hS 6 rfl h_83 dX9_movesAll_484 (w2 := (wd_X9 cI cL cS cH a v_keptMany v_done v_rowsOf v_columnsOf v_folded v_wronged v_tapeMany v_textMany v_base v_at v_ends v_fault v_opened v_bentMany v_bentWrong v_moreWorn v_planned v_allWrong v_allWorn v_z v_wishedField v_isFound v_bestWrong v_bestWorn v_bestMany v_soughtBy v_sought v_soughtAt v_foundMany v_foundOrder v_isKept v_imageRows v_imageColumns v_imageFolded v_imageWronged v_bodies v_ran v_ownKind v_ownNumber v_limit v_changeWas v_changeIs v_shapeRows v_shapeColumns (mm_is v_row (((32 : Int32) * x1) + x9) y_82) v_column l_79 v_face v_worn v_lastBend v_tape v_text v_names v_bends v_high v_to v_pileSize v_planLine v_planWay v_way1 v_bestWay v_order1 v_placeIn v_bodyKind v_trace v_shelf v_many v_items v_carried)) rfl (fun H locs hP hD hS => ?_)
        generalize el_84 : (mm_is v_row (((32 : Int32) * x1) + x9) y_82) = l_84 at hP hD
        have hf := mm_nms hf el_84.symm
        exact tX9_movesAll_485 hd C0 hA N ih _ _ _ _ _ _ _ _ _ _ _ _ _ _ _ _ H locs ls hf hP hD hS (lv_sub hl [0, 1, 2, 3, 4, 5] rfl)
      · have hf := mm_in hf c_80
        refine lv_aload_n hx hb dX9_movesAll_444 rfl (lv_at hl 0 rfl) ?_
        refine mm_get C0 hP iw_X9 0 rfl rfl 10 (by decide) fl_X9_28 rfl dX9_movesAll_445 ?_
        refine lv_bipush (v := 32) hx hb dX9_movesAll_448 (by decide) ?_
        refine lv_iload_n hx hb dX9_movesAll_450 rfl (lv_at hl 1 rfl) ?_
        refine lv_imul hx hb dX9_movesAll_451 ?_
        refine lv_iload hx hb dX9_movesAll_452 (lv_at hl 5 rfl) ?_
        refine lv_iadd hx hb dX9_movesAll_454 ?_
        refine lv_aload_n hx hb dX9_movesAll_455 rfl (lv_at hl 0 rfl) ?_
        refine mm_get C0 hP iw_X9 0 rfl rfl 32 (by decide) fl_X9_58 rfl dX9_movesAll_456 ?_
        refine lv_iload hx hb dX9_movesAll_459 (lv_at hl 5 rfl) ?_
        obtain ⟨h_85, hf⟩ := mm_cks hf
        refine mm_iald C0 hP 17 rfl h_85 dX9_movesAll_461 ?_
        refine lv_topi (fun y_86 ey_86 => ?_)
        have hf := mm_nms hf ey_86
        obtain ⟨h_87, hf⟩ := mm_cks hf
        refine mm_iast C0 hP hD hS 7 rfl h_87 dX9_movesAll_462 (w2 := (wd_X9 cI cL cS cH a v_keptMany v_done v_rowsOf v_columnsOf v_folded v_wronged v_tapeMany v_textMany v_base v_at v_ends v_fault v_opened v_bentMany v_bentWrong v_moreWorn v_planned v_allWrong v_allWorn v_z v_wishedField v_isFound v_bestWrong v_bestWorn v_bestMany v_soughtBy v_sought v_soughtAt v_foundMany v_foundOrder v_isKept v_imageRows v_imageColumns v_imageFolded v_imageWronged v_bodies v_ran v_ownKind v_ownNumber v_limit v_changeWas v_changeIs v_shapeRows v_shapeColumns v_row (mm_is v_column (((32 : Int32) * x1) + x9) y_86) l_79 v_face v_worn v_lastBend v_tape v_text v_names v_bends v_high v_to v_pileSize v_planLine v_planWay v_way1 v_bestWay v_order1 v_placeIn v_bodyKind v_trace v_shelf v_many v_items v_carried)) rfl (fun H locs hP hD hS => ?_)
        generalize el_88 : (mm_is v_column (((32 : Int32) * x1) + x9) y_86) = l_88 at hP hD
        have hf := mm_nms hf el_88.symm
        refine lv_goto (tgt := 485) hx hb dX9_movesAll_463 (by decide) ?_
        exact tX9_movesAll_485 hd C0 hA N ih _ _ _ _ _ _ _ _ _ _ _ _ _ _ _ _ H locs ls hf hP hD hS (lv_sub hl [0, 1, 2, 3, 4, 5] rfl)

def fX9_movesAll_174 (N : Nat)  : Nat → Int32 → Int32 → Int32 → Int32 → Int32 → Int32 → Int32 → Int32 → Int32 → Int32 → List Int32 → List Int32 → List Int32 → List Int32 → List Int32 → List Int32 → List Int32 → List Int32 → List Int32 → Option (List Int32 × List Int32 × List Int32 × List Int32 × List Int32 × List Int32 × List Int32 × List Int32 × List Int32)
  | 0 => fun _ _ _ _ _ _ _ _ _ _ _ _ _ _ _ _ _ _ _ => none
  | n + 1 => fun x1 x2 x4 x5 x6 x7 x8 x9 v_rowsOf v_columnsOf v_shapeRows v_shapeColumns v_row v_column v_below v_face v_high v_to v_pileSize =>
    mm_bd1 (fX9_fields N v_rowsOf v_columnsOf) (fun (r_30 : Int32) =>
    if r_30 ≤ x9 then
    (fX9_movesAll_411 N N x1 x2 x4 x7 (0 : Int32) v_rowsOf v_columnsOf v_shapeRows v_shapeColumns v_row v_column v_below v_face v_high v_to v_pileSize)
    else (mm_nm ((((32 : Int32) * x1) + x9)) (fun (y_33 : Int32) =>
    mm_bd1 (fX9_placeOf N x1 x9 x4 v_row v_column) (fun (r_34 : Int32) =>
    if x4 = 0 then
    (fX9_movesAll_217 N (fX9_movesAll_174 N n) x1 x2 x4 x5 x6 x7 x8 x9 y_33 r_34 (1 : Int32) x9 x1 v_rowsOf v_columnsOf v_shapeRows v_shapeColumns v_row v_column v_below v_face v_high v_to v_pileSize)
    else (fX9_movesAll_217 N (fX9_movesAll_174 N n) x1 x2 x4 x5 x6 x7 x8 x9 y_33 r_34 (0 : Int32) x9 x1 v_rowsOf v_columnsOf v_shapeRows v_shapeColumns v_row v_column v_below v_face v_high v_to v_pileSize)))))

set_option maxHeartbeats 4000000 in
set_option maxRecDepth 100000 in
theorem tX9_movesAll_174 {p : Program} {l : Launch} {e : Env} {s : State} {m : MethodId} {args : Array Value} {below : List Frame} {meth : Method} {c : Code} {D : va_G} {cI cL cS cH : ClassId} {A : Nat → Prop} {d : Nat} {a : Nat → Nat} (hd : 2 ≤ d) (C0 : mm_Cx p s m args meth c RX9 cX9_movesAll 16 none D (mm_T cI cL cS cH) A) (hA : ∀ q, s.heap.size ≤ q → A q) {v_keptMany : Int32} {v_done : Int32} {v_folded : Int32} {v_wronged : Int32} {v_tapeMany : Int32} {v_textMany : Int32} {v_base : Int32} {v_at : Int32} {v_ends : Int32} {v_fault : Int32} {v_opened : Int32} {v_bentMany : Int32} {v_bentWrong : Int32} {v_moreWorn : Int32} {v_planned : Int32} {v_allWrong : Int32} {v_allWorn : Int32} {v_z : Int32} {v_wishedField : Int32} {v_isFound : Bool} {v_bestWrong : Int32} {v_bestWorn : Int32} {v_bestMany : Int32} {v_soughtBy : Int32} {v_sought : Int32} {v_soughtAt : Int32} {v_foundMany : Int32} {v_foundOrder : Int32} {v_isKept : Bool} {v_imageRows : Int32} {v_imageColumns : Int32} {v_imageFolded : Int32} {v_imageWronged : Int32} {v_bodies : Int32} {v_ran : Int32} {v_ownKind : Int32} {v_ownNumber : Int32} {v_limit : List Int32} {v_changeWas : List Int32} {v_changeIs : List Int32} {v_worn : List Int32} {v_lastBend : List Int32} {v_tape : List Int32} {v_text : List Int32} {v_names : List Int32} {v_bends : List Int32} {v_planLine : List Int32} {v_planWay : List Int32} {v_way1 : List Int32} {v_bestWay : List Int32} {v_order1 : List Int32} {v_placeIn : List Int32} {v_bodyKind : List Int32} {v_trace : List Int32} {v_shelf : List Int32} {v_many : List Int32} {v_items : List Int64} {v_carried : List Int64} {w_shapeRows : List Int32} {w_shapeColumns : List Int32} {w_row : List Int32} {w_column : List Int32} {w_below : List Int32} {w_face : List Int32} {w_high : List Int32} {w_to : List Int32} {w_pileSize : List Int32} (N : Nat)  : ∀ (n : Nat), ∀ (x1 : Int32) (x2 : Int32) (x4 : Int32) (x5 : Int32) (x6 : Int32) (x7 : Int32) (x8 : Int32) (x9 : Int32) (v_rowsOf : Int32) (v_columnsOf : Int32) (v_shapeRows : List Int32) (v_shapeColumns : List Int32) (v_row : List Int32) (v_column : List Int32) (v_below : List Int32) (v_face : List Int32) (v_high : List Int32) (v_to : List Int32) (v_pileSize : List Int32) (H : Heap) (locs : List Loc) (ls : Array Slot), fX9_movesAll_174 N n x1 x2 x4 x5 x6 x7 x8 x9 v_rowsOf v_columnsOf v_shapeRows v_shapeColumns v_row v_column v_below v_face v_high v_to v_pileSize = some (w_shapeRows, w_shapeColumns, w_row, w_column, w_below, w_face, w_high, w_to, w_pileSize) → va_P D mm_cl (wd_X9 cI cL cS cH a v_keptMany v_done v_rowsOf v_columnsOf v_folded v_wronged v_tapeMany v_textMany v_base v_at v_ends v_fault v_opened v_bentMany v_bentWrong v_moreWorn v_planned v_allWrong v_allWorn v_z v_wishedField v_isFound v_bestWrong v_bestWorn v_bestMany v_soughtBy v_sought v_soughtAt v_foundMany v_foundOrder v_isKept v_imageRows v_imageColumns v_imageFolded v_imageWronged v_bodies v_ran v_ownKind v_ownNumber v_limit v_changeWas v_changeIs v_shapeRows v_shapeColumns v_row v_column v_below v_face v_worn v_lastBend v_tape v_text v_names v_bends v_high v_to v_pileSize v_planLine v_planWay v_way1 v_bestWay v_order1 v_placeIn v_bodyKind v_trace v_shelf v_many v_items v_carried) H → va_D A (wd_X9 cI cL cS cH a v_keptMany v_done v_rowsOf v_columnsOf v_folded v_wronged v_tapeMany v_textMany v_base v_at v_ends v_fault v_opened v_bentMany v_bentWrong v_moreWorn v_planned v_allWrong v_allWorn v_z v_wishedField v_isFound v_bestWrong v_bestWorn v_bestMany v_soughtBy v_sought v_soughtAt v_foundMany v_foundOrder v_isKept v_imageRows v_imageColumns v_imageFolded v_imageWronged v_bodies v_ran v_ownKind v_ownNumber v_limit v_changeWas v_changeIs v_shapeRows v_shapeColumns v_row v_column v_below v_face v_worn v_lastBend v_tape v_text v_names v_bends v_high v_to v_pileSize v_planLine v_planWay v_way1 v_bestWay v_order1 v_placeIn v_bodyKind v_trace v_shelf v_many v_items v_carried) → va_S A s.heap H locs → lv_has ls 16 [(0, .ref (a 0)), (1, .int x1), (2, .int x2), (4, .int x4), (5, .int x5), (6, .int x6), (7, .int x7), (8, .int x8), (9, .int x9)] → W p l e (mm_rr d) s m args below meth c H locs 0 0 (mm_Z below D A (wd_X9 cI cL cS cH a v_keptMany v_done v_rowsOf v_columnsOf v_folded v_wronged v_tapeMany v_textMany v_base v_at v_ends v_fault v_opened v_bentMany v_bentWrong v_moreWorn v_planned v_allWrong v_allWorn v_z v_wishedField v_isFound v_bestWrong v_bestWorn v_bestMany v_soughtBy v_sought v_soughtAt v_foundMany v_foundOrder v_isKept v_imageRows v_imageColumns v_imageFolded v_imageWronged v_bodies v_ran v_ownKind v_ownNumber v_limit v_changeWas v_changeIs w_shapeRows w_shapeColumns w_row w_column w_below w_face v_worn v_lastBend v_tape v_text v_names v_bends w_high w_to w_pileSize v_planLine v_planWay v_way1 v_bestWay v_order1 v_placeIn v_bodyKind v_trace v_shelf v_many v_items v_carried) none args s) (F0 m 174 ls []) := by
  obtain ⟨hx, hb, hml, hown, hts, hr, hlocks, hK, hSt⟩ := id C0
  intro n
  induction n with
  | zero =>
    intro x1 x2 x4 x5 x6 x7 x8 x9 v_rowsOf v_columnsOf v_shapeRows v_shapeColumns v_row v_column v_below v_face v_high v_to v_pileSize H locs ls hf
    cases (show none = some _ from hf)
  | succ n ih =>
    intro x1 x2 x4 x5 x6 x7 x8 x9 v_rowsOf v_columnsOf v_shapeRows v_shapeColumns v_row v_column v_below v_face v_high v_to v_pileSize H locs ls hf hP hD hS hl
    unfold fX9_movesAll_174 at hf
    refine lv_iload hx hb dX9_movesAll_174 (lv_at hl 8 rfl) ?_
    refine lv_aload_n hx hb dX9_movesAll_176 rfl (lv_at hl 0 rfl) ?_
    obtain ⟨r_30, hc_31, hf⟩ := mm_bd1s hf
    refine mm_callVF (q0 := 0) (ci := 9) (rest := [.int x9]) C0 lk_X9_127 (ctX9_fields (a := a) (d := d - 1) (by omega) hc_31) (by omega) rfl hl.1 rfl (mm_cat rfl) dX9_movesAll_177 hP hD hA hS rfl rfl (fun H locs hP hD hS => ?_)
    refine W.eq (g2 := F0 m 180 ls [.int r_30, .int x9]) rfl ?_
    refine lv_icmp_ge (tgt := 408) hx hb dX9_movesAll_180 (by decide) (fun c_32 => ?_) (fun c_32 => ?_)
    · have hf := mm_ip hf c_32
      refine lv_iconst (v := 0) hx hb dX9_movesAll_408 (by decide) ?_
      refine lv_istore (lv' := [(9, .int (0 : Int32)), (0, .ref (a 0)), (1, .int x1), (2, .int x2), (4, .int x4), (5, .int x5), (6, .int x6), (7, .int x7), (8, .int x8)]) hx hb dX9_movesAll_409 hl (by decide) rfl (fun ls hl => ?_)
      exact tX9_movesAll_411 hd C0 hA N  N _ _ _ _ _ _ _ _ _ _ _ _ _ _ _ _ H locs ls hf hP hD hS (lv_sub hl [1, 2, 3, 4, 7, 0] rfl)
    · have hf := mm_in hf c_32
      refine lv_bipush (v := 32) hx hb dX9_movesAll_183 (by decide) ?_
      refine lv_iload_n hx hb dX9_movesAll_185 rfl (lv_at hl 1 rfl) ?_
      refine lv_imul hx hb dX9_movesAll_186 ?_
      refine lv_iload hx hb dX9_movesAll_187 (lv_at hl 8 rfl) ?_
      refine lv_iadd hx hb dX9_movesAll_189 ?_
      refine lv_topi (fun y_33 ey_33 => ?_)
      have hf := mm_nms hf ey_33
      refine lv_istore (lv' := [(10, .int y_33), (0, .ref (a 0)), (1, .int x1), (2, .int x2), (4, .int x4), (5, .int x5), (6, .int x6), (7, .int x7), (8, .int x8), (9, .int x9)]) hx hb dX9_movesAll_190 hl (by decide) rfl (fun ls hl => ?_)
      refine lv_aload_n hx hb dX9_movesAll_192 rfl (lv_at hl 1 rfl) ?_
      refine lv_iload_n hx hb dX9_movesAll_193 rfl (lv_at hl 2 rfl) ?_
      refine lv_iload hx hb dX9_movesAll_194 (lv_at hl 9 rfl) ?_
      refine lv_iload hx hb dX9_movesAll_196 (lv_at hl 4 rfl) ?_
      obtain ⟨r_34, hc_35, hf⟩ := mm_bd1s hf
      refine mm_callVF (q0 := 0) (ci := 9) (rest := []) C0 lk_X9_204 (ctX9_placeOf (a := a) (d := d - 1) (by omega) hc_35) (by omega) rfl hl.1 rfl (mm_cat rfl) dX9_movesAll_198 hP hD hA hS rfl rfl (fun H locs hP hD hS => ?_)
      refine W.eq (g2 := F0 m 201 ls [.int r_34]) rfl ?_
      refine lv_istore (lv' := [(11, .int r_34), (10, .int y_33), (0, .ref (a 0)), (1, .int x1), (2, .int x2), (4, .int x4), (5, .int x5), (6, .int x6), (7, .int x7), (8, .int x8), (9, .int x9)]) hx hb dX9_movesAll_201 hl (by decide) rfl (fun ls hl => ?_)
      refine lv_aload_n hx hb dX9_movesAll_203 rfl (lv_at hl 2 rfl) ?_
      refine lv_iload_n hx hb dX9_movesAll_204 rfl (lv_at hl 3 rfl) ?_
      refine lv_iload hx hb dX9_movesAll_205 (lv_at hl 10 rfl) ?_
      refine lv_iload hx hb dX9_movesAll_207 (lv_at hl 5 rfl) ?_
      refine lv_if_ne (tgt := 216) hx hb dX9_movesAll_209 (by decide) (fun c_36 => ?_) (fun c_36 => ?_)
      · have hf := mm_in hf c_36
        refine lv_iconst (v := 0) hx hb dX9_movesAll_216 (by decide) ?_
        exact tX9_movesAll_217 hd C0 hA N ih _ _ _ _ _ _ _ _ _ _ _ _ _ _ _ _ _ _ _ _ _ _ _ _ H locs ls hf hP hD hS (lv_sub hl [2, 3, 4, 5, 6, 7, 8, 9, 10, 1, 0] rfl)
      · have hf := mm_ip hf c_36
        refine lv_iconst (v := 1) hx hb dX9_movesAll_212 (by decide) ?_
        refine lv_goto (tgt := 217) hx hb dX9_movesAll_213 (by decide) ?_
        exact tX9_movesAll_217 hd C0 hA N ih _ _ _ _ _ _ _ _ _ _ _ _ _ _ _ _ _ _ _ _ _ _ _ _ H locs ls hf hP hD hS (lv_sub hl [2, 3, 4, 5, 6, 7, 8, 9, 10, 1, 0] rfl)

def fX9_movesAll_118 (N : Nat)  : Nat → Int32 → Int32 → Int32 → Int32 → Int32 → Int32 → Int32 → Int32 → Int32 → Int32 → List Int32 → List Int32 → List Int32 → List Int32 → List Int32 → List Int32 → List Int32 → List Int32 → List Int32 → Option (List Int32 × List Int32 × List Int32 × List Int32 × List Int32 × List Int32 × List Int32 × List Int32 × List Int32)
  | 0 => fun _ _ _ _ _ _ _ _ _ _ _ _ _ _ _ _ _ _ _ => none
  | n + 1 => fun x1 x2 x4 x5 x6 x7 x8 x9 v_rowsOf v_columnsOf v_shapeRows v_shapeColumns v_row v_column v_below v_face v_high v_to v_pileSize =>
    mm_bd1 (fX9_fields N v_rowsOf v_columnsOf) (fun (r_15 : Int32) =>
    if r_15 ≤ x9 then
    (fX9_movesAll_174 N N x1 x2 x4 x5 x6 x7 x8 (0 : Int32) v_rowsOf v_columnsOf v_shapeRows v_shapeColumns v_row v_column v_below v_face v_high v_to v_pileSize)
    else (mm_bd1 (fX9_placeOf N x1 x9 x4 v_row v_column) (fun (r_18 : Int32) =>
    if x4 = 0 then
    (fX9_movesAll_154 N (fX9_movesAll_118 N n) x1 x2 x4 x5 x6 x7 x8 x9 (1 : Int32) x9 x1 r_18 v_rowsOf v_columnsOf v_shapeRows v_shapeColumns v_row v_column v_below v_face v_high v_to v_pileSize)
    else (fX9_movesAll_154 N (fX9_movesAll_118 N n) x1 x2 x4 x5 x6 x7 x8 x9 (0 : Int32) x9 x1 r_18 v_rowsOf v_columnsOf v_shapeRows v_shapeColumns v_row v_column v_below v_face v_high v_to v_pileSize))))

set_option maxHeartbeats 4000000 in
set_option maxRecDepth 100000 in
theorem tX9_movesAll_118 {p : Program} {l : Launch} {e : Env} {s : State} {m : MethodId} {args : Array Value} {below : List Frame} {meth : Method} {c : Code} {D : va_G} {cI cL cS cH : ClassId} {A : Nat → Prop} {d : Nat} {a : Nat → Nat} (hd : 2 ≤ d) (C0 : mm_Cx p s m args meth c RX9 cX9_movesAll 16 none D (mm_T cI cL cS cH) A) (hA : ∀ q, s.heap.size ≤ q → A q) {v_keptMany : Int32} {v_done : Int32} {v_folded : Int32} {v_wronged : Int32} {v_tapeMany : Int32} {v_textMany : Int32} {v_base : Int32} {v_at : Int32} {v_ends : Int32} {v_fault : Int32} {v_opened : Int32} {v_bentMany : Int32} {v_bentWrong : Int32} {v_moreWorn : Int32} {v_planned : Int32} {v_allWrong : Int32} {v_allWorn : Int32} {v_z : Int32} {v_wishedField : Int32} {v_isFound : Bool} {v_bestWrong : Int32} {v_bestWorn : Int32} {v_bestMany : Int32} {v_soughtBy : Int32} {v_sought : Int32} {v_soughtAt : Int32} {v_foundMany : Int32} {v_foundOrder : Int32} {v_isKept : Bool} {v_imageRows : Int32} {v_imageColumns : Int32} {v_imageFolded : Int32} {v_imageWronged : Int32} {v_bodies : Int32} {v_ran : Int32} {v_ownKind : Int32} {v_ownNumber : Int32} {v_limit : List Int32} {v_changeWas : List Int32} {v_changeIs : List Int32} {v_worn : List Int32} {v_lastBend : List Int32} {v_tape : List Int32} {v_text : List Int32} {v_names : List Int32} {v_bends : List Int32} {v_planLine : List Int32} {v_planWay : List Int32} {v_way1 : List Int32} {v_bestWay : List Int32} {v_order1 : List Int32} {v_placeIn : List Int32} {v_bodyKind : List Int32} {v_trace : List Int32} {v_shelf : List Int32} {v_many : List Int32} {v_items : List Int64} {v_carried : List Int64} {w_shapeRows : List Int32} {w_shapeColumns : List Int32} {w_row : List Int32} {w_column : List Int32} {w_below : List Int32} {w_face : List Int32} {w_high : List Int32} {w_to : List Int32} {w_pileSize : List Int32} (N : Nat)  : ∀ (n : Nat), ∀ (x1 : Int32) (x2 : Int32) (x4 : Int32) (x5 : Int32) (x6 : Int32) (x7 : Int32) (x8 : Int32) (x9 : Int32) (v_rowsOf : Int32) (v_columnsOf : Int32) (v_shapeRows : List Int32) (v_shapeColumns : List Int32) (v_row : List Int32) (v_column : List Int32) (v_below : List Int32) (v_face : List Int32) (v_high : List Int32) (v_to : List Int32) (v_pileSize : List Int32) (H : Heap) (locs : List Loc) (ls : Array Slot), fX9_movesAll_118 N n x1 x2 x4 x5 x6 x7 x8 x9 v_rowsOf v_columnsOf v_shapeRows v_shapeColumns v_row v_column v_below v_face v_high v_to v_pileSize = some (w_shapeRows, w_shapeColumns, w_row, w_column, w_below, w_face, w_high, w_to, w_pileSize) → va_P D mm_cl (wd_X9 cI cL cS cH a v_keptMany v_done v_rowsOf v_columnsOf v_folded v_wronged v_tapeMany v_textMany v_base v_at v_ends v_fault v_opened v_bentMany v_bentWrong v_moreWorn v_planned v_allWrong v_allWorn v_z v_wishedField v_isFound v_bestWrong v_bestWorn v_bestMany v_soughtBy v_sought v_soughtAt v_foundMany v_foundOrder v_isKept v_imageRows v_imageColumns v_imageFolded v_imageWronged v_bodies v_ran v_ownKind v_ownNumber v_limit v_changeWas v_changeIs v_shapeRows v_shapeColumns v_row v_column v_below v_face v_worn v_lastBend v_tape v_text v_names v_bends v_high v_to v_pileSize v_planLine v_planWay v_way1 v_bestWay v_order1 v_placeIn v_bodyKind v_trace v_shelf v_many v_items v_carried) H → va_D A (wd_X9 cI cL cS cH a v_keptMany v_done v_rowsOf v_columnsOf v_folded v_wronged v_tapeMany v_textMany v_base v_at v_ends v_fault v_opened v_bentMany v_bentWrong v_moreWorn v_planned v_allWrong v_allWorn v_z v_wishedField v_isFound v_bestWrong v_bestWorn v_bestMany v_soughtBy v_sought v_soughtAt v_foundMany v_foundOrder v_isKept v_imageRows v_imageColumns v_imageFolded v_imageWronged v_bodies v_ran v_ownKind v_ownNumber v_limit v_changeWas v_changeIs v_shapeRows v_shapeColumns v_row v_column v_below v_face v_worn v_lastBend v_tape v_text v_names v_bends v_high v_to v_pileSize v_planLine v_planWay v_way1 v_bestWay v_order1 v_placeIn v_bodyKind v_trace v_shelf v_many v_items v_carried) → va_S A s.heap H locs → lv_has ls 16 [(0, .ref (a 0)), (1, .int x1), (2, .int x2), (4, .int x4), (5, .int x5), (6, .int x6), (7, .int x7), (8, .int x8), (9, .int x9)] → W p l e (mm_rr d) s m args below meth c H locs 0 0 (mm_Z below D A (wd_X9 cI cL cS cH a v_keptMany v_done v_rowsOf v_columnsOf v_folded v_wronged v_tapeMany v_textMany v_base v_at v_ends v_fault v_opened v_bentMany v_bentWrong v_moreWorn v_planned v_allWrong v_allWorn v_z v_wishedField v_isFound v_bestWrong v_bestWorn v_bestMany v_soughtBy v_sought v_soughtAt v_foundMany v_foundOrder v_isKept v_imageRows v_imageColumns v_imageFolded v_imageWronged v_bodies v_ran v_ownKind v_ownNumber v_limit v_changeWas v_changeIs w_shapeRows w_shapeColumns w_row w_column w_below w_face v_worn v_lastBend v_tape v_text v_names v_bends w_high w_to w_pileSize v_planLine v_planWay v_way1 v_bestWay v_order1 v_placeIn v_bodyKind v_trace v_shelf v_many v_items v_carried) none args s) (F0 m 118 ls []) := by
  obtain ⟨hx, hb, hml, hown, hts, hr, hlocks, hK, hSt⟩ := id C0
  intro n
  induction n with
  | zero =>
    intro x1 x2 x4 x5 x6 x7 x8 x9 v_rowsOf v_columnsOf v_shapeRows v_shapeColumns v_row v_column v_below v_face v_high v_to v_pileSize H locs ls hf
    cases (show none = some _ from hf)
  | succ n ih =>
    intro x1 x2 x4 x5 x6 x7 x8 x9 v_rowsOf v_columnsOf v_shapeRows v_shapeColumns v_row v_column v_below v_face v_high v_to v_pileSize H locs ls hf hP hD hS hl
    unfold fX9_movesAll_118 at hf
    refine lv_iload hx hb dX9_movesAll_118 (lv_at hl 8 rfl) ?_
    refine lv_aload_n hx hb dX9_movesAll_120 rfl (lv_at hl 0 rfl) ?_
    obtain ⟨r_15, hc_16, hf⟩ := mm_bd1s hf
    refine mm_callVF (q0 := 0) (ci := 9) (rest := [.int x9]) C0 lk_X9_127 (ctX9_fields (a := a) (d := d - 1) (by omega) hc_16) (by omega) rfl hl.1 rfl (mm_cat rfl) dX9_movesAll_121 hP hD hA hS rfl rfl (fun H locs hP hD hS => ?_)
    refine W.eq (g2 := F0 m 124 ls [.int r_15, .int x9]) rfl ?_
    refine lv_icmp_ge (tgt := 171) hx hb dX9_movesAll_124 (by decide) (fun c_17 => ?_) (fun c_17 => ?_)
    · have hf := mm_ip hf c_17
      refine lv_iconst (v := 0) hx hb dX9_movesAll_171 (by decide) ?_
      refine lv_istore (lv' := [(9, .int (0 : Int32)), (0, .ref (a 0)), (1, .int x1), (2, .int x2), (4, .int x4), (5, .int x5), (6, .int x6), (7, .int x7), (8, .int x8)]) hx hb dX9_movesAll_172 hl (by decide) rfl (fun ls hl => ?_)
      exact tX9_movesAll_174 hd C0 hA N  N _ _ _ _ _ _ _ _ _ _ _ _ _ _ _ _ _ _ _ H locs ls hf hP hD hS (lv_sub hl [1, 2, 3, 4, 5, 6, 7, 8, 0] rfl)
    · have hf := mm_in hf c_17
      refine lv_aload_n hx hb dX9_movesAll_127 rfl (lv_at hl 0 rfl) ?_
      refine mm_get C0 hP iw_X9 0 rfl rfl 33 (by decide) fl_X9_61 rfl dX9_movesAll_128 ?_
      refine lv_aload_n hx hb dX9_movesAll_131 rfl (lv_at hl 0 rfl) ?_
      refine lv_iload_n hx hb dX9_movesAll_132 rfl (lv_at hl 1 rfl) ?_
      refine lv_iload hx hb dX9_movesAll_133 (lv_at hl 8 rfl) ?_
      refine lv_iload hx hb dX9_movesAll_135 (lv_at hl 3 rfl) ?_
      obtain ⟨r_18, hc_19, hf⟩ := mm_bd1s hf
      refine mm_callVF (q0 := 0) (ci := 9) (rest := [.ref (a 18)]) C0 lk_X9_204 (ctX9_placeOf (a := a) (d := d - 1) (by omega) hc_19) (by omega) rfl hl.1 rfl (mm_cat rfl) dX9_movesAll_137 hP hD hA hS rfl rfl (fun H locs hP hD hS => ?_)
      refine W.eq (g2 := F0 m 140 ls [.int r_18, .ref (a 18)]) rfl ?_
      refine lv_aload_n hx hb dX9_movesAll_140 rfl (lv_at hl 0 rfl) ?_
      refine lv_iload_n hx hb dX9_movesAll_141 rfl (lv_at hl 1 rfl) ?_
      refine lv_iload hx hb dX9_movesAll_142 (lv_at hl 8 rfl) ?_
      refine lv_iload hx hb dX9_movesAll_144 (lv_at hl 3 rfl) ?_
      refine lv_if_ne (tgt := 153) hx hb dX9_movesAll_146 (by decide) (fun c_20 => ?_) (fun c_20 => ?_)
      · have hf := mm_in hf c_20
        refine lv_iconst (v := 0) hx hb dX9_movesAll_153 (by decide) ?_
        exact tX9_movesAll_154 hd C0 hA N ih _ _ _ _ _ _ _ _ _ _ _ _ _ _ _ _ _ _ _ _ _ _ _ H locs ls hf hP hD hS (lv_sub hl [0, 1, 2, 3, 4, 5, 6, 7, 8] rfl)
      · have hf := mm_ip hf c_20
        refine lv_iconst (v := 1) hx hb dX9_movesAll_149 (by decide) ?_
        refine lv_goto (tgt := 154) hx hb dX9_movesAll_150 (by decide) ?_
        exact tX9_movesAll_154 hd C0 hA N ih _ _ _ _ _ _ _ _ _ _ _ _ _ _ _ _ _ _ _ _ _ _ _ H locs ls hf hP hD hS (lv_sub hl [0, 1, 2, 3, 4, 5, 6, 7, 8] rfl)

def fX9_movesAll_94 (N : Nat)  : Nat → Int32 → Int32 → Int32 → Int32 → Int32 → Int32 → Int32 → Int32 → Int32 → Int32 → List Int32 → List Int32 → List Int32 → List Int32 → List Int32 → List Int32 → List Int32 → List Int32 → List Int32 → Option (List Int32 × List Int32 × List Int32 × List Int32 × List Int32 × List Int32 × List Int32 × List Int32 × List Int32)
  | 0 => fun _ _ _ _ _ _ _ _ _ _ _ _ _ _ _ _ _ _ _ => none
  | n + 1 => fun x1 x2 x4 x5 x6 x7 x8 x9 v_rowsOf v_columnsOf v_shapeRows v_shapeColumns v_row v_column v_below v_face v_high v_to v_pileSize =>
    if (64 : Int32) ≤ x9 then
    (fX9_movesAll_118 N N x1 x2 x4 x5 x6 x7 x8 (0 : Int32) v_rowsOf v_columnsOf v_shapeRows v_shapeColumns v_row v_column v_below v_face v_high v_to v_pileSize)
    else (mm_ck (mm_inb x9 v_pileSize.length) (mm_nm (mm_is v_pileSize x9 (0 : Int32)) (fun (l_13 : List Int32) =>
    mm_nm (x9 + (1 : Int32)) (fun (y_14 : Int32) =>
    fX9_movesAll_94 N n x1 x2 x4 x5 x6 x7 x8 y_14 v_rowsOf v_columnsOf v_shapeRows v_shapeColumns v_row v_column v_below v_face v_high v_to l_13))))

set_option maxHeartbeats 4000000 in
set_option maxRecDepth 100000 in
theorem tX9_movesAll_94 {p : Program} {l : Launch} {e : Env} {s : State} {m : MethodId} {args : Array Value} {below : List Frame} {meth : Method} {c : Code} {D : va_G} {cI cL cS cH : ClassId} {A : Nat → Prop} {d : Nat} {a : Nat → Nat} (hd : 2 ≤ d) (C0 : mm_Cx p s m args meth c RX9 cX9_movesAll 16 none D (mm_T cI cL cS cH) A) (hA : ∀ q, s.heap.size ≤ q → A q) {v_keptMany : Int32} {v_done : Int32} {v_folded : Int32} {v_wronged : Int32} {v_tapeMany : Int32} {v_textMany : Int32} {v_base : Int32} {v_at : Int32} {v_ends : Int32} {v_fault : Int32} {v_opened : Int32} {v_bentMany : Int32} {v_bentWrong : Int32} {v_moreWorn : Int32} {v_planned : Int32} {v_allWrong : Int32} {v_allWorn : Int32} {v_z : Int32} {v_wishedField : Int32} {v_isFound : Bool} {v_bestWrong : Int32} {v_bestWorn : Int32} {v_bestMany : Int32} {v_soughtBy : Int32} {v_sought : Int32} {v_soughtAt : Int32} {v_foundMany : Int32} {v_foundOrder : Int32} {v_isKept : Bool} {v_imageRows : Int32} {v_imageColumns : Int32} {v_imageFolded : Int32} {v_imageWronged : Int32} {v_bodies : Int32} {v_ran : Int32} {v_ownKind : Int32} {v_ownNumber : Int32} {v_limit : List Int32} {v_changeWas : List Int32} {v_changeIs : List Int32} {v_worn : List Int32} {v_lastBend : List Int32} {v_tape : List Int32} {v_text : List Int32} {v_names : List Int32} {v_bends : List Int32} {v_planLine : List Int32} {v_planWay : List Int32} {v_way1 : List Int32} {v_bestWay : List Int32} {v_order1 : List Int32} {v_placeIn : List Int32} {v_bodyKind : List Int32} {v_trace : List Int32} {v_shelf : List Int32} {v_many : List Int32} {v_items : List Int64} {v_carried : List Int64} {w_shapeRows : List Int32} {w_shapeColumns : List Int32} {w_row : List Int32} {w_column : List Int32} {w_below : List Int32} {w_face : List Int32} {w_high : List Int32} {w_to : List Int32} {w_pileSize : List Int32} (N : Nat)  : ∀ (n : Nat), ∀ (x1 : Int32) (x2 : Int32) (x4 : Int32) (x5 : Int32) (x6 : Int32) (x7 : Int32) (x8 : Int32) (x9 : Int32) (v_rowsOf : Int32) (v_columnsOf : Int32) (v_shapeRows : List Int32) (v_shapeColumns : List Int32) (v_row : List Int32) (v_column : List Int32) (v_below : List Int32) (v_face : List Int32) (v_high : List Int32) (v_to : List Int32) (v_pileSize : List Int32) (H : Heap) (locs : List Loc) (ls : Array Slot), fX9_movesAll_94 N n x1 x2 x4 x5 x6 x7 x8 x9 v_rowsOf v_columnsOf v_shapeRows v_shapeColumns v_row v_column v_below v_face v_high v_to v_pileSize = some (w_shapeRows, w_shapeColumns, w_row, w_column, w_below, w_face, w_high, w_to, w_pileSize) → va_P D mm_cl (wd_X9 cI cL cS cH a v_keptMany v_done v_rowsOf v_columnsOf v_folded v_wronged v_tapeMany v_textMany v_base v_at v_ends v_fault v_opened v_bentMany v_bentWrong v_moreWorn v_planned v_allWrong v_allWorn v_z v_wishedField v_isFound v_bestWrong v_bestWorn v_bestMany v_soughtBy v_sought v_soughtAt v_foundMany v_foundOrder v_isKept v_imageRows v_imageColumns v_imageFolded v_imageWronged v_bodies v_ran v_ownKind v_ownNumber v_limit v_changeWas v_changeIs v_shapeRows v_shapeColumns v_row v_column v_below v_face v_worn v_lastBend v_tape v_text v_names v_bends v_high v_to v_pileSize v_planLine v_planWay v_way1 v_bestWay v_order1 v_placeIn v_bodyKind v_trace v_shelf v_many v_items v_carried) H → va_D A (wd_X9 cI cL cS cH a v_keptMany v_done v_rowsOf v_columnsOf v_folded v_wronged v_tapeMany v_textMany v_base v_at v_ends v_fault v_opened v_bentMany v_bentWrong v_moreWorn v_planned v_allWrong v_allWorn v_z v_wishedField v_isFound v_bestWrong v_bestWorn v_bestMany v_soughtBy v_sought v_soughtAt v_foundMany v_foundOrder v_isKept v_imageRows v_imageColumns v_imageFolded v_imageWronged v_bodies v_ran v_ownKind v_ownNumber v_limit v_changeWas v_changeIs v_shapeRows v_shapeColumns v_row v_column v_below v_face v_worn v_lastBend v_tape v_text v_names v_bends v_high v_to v_pileSize v_planLine v_planWay v_way1 v_bestWay v_order1 v_placeIn v_bodyKind v_trace v_shelf v_many v_items v_carried) → va_S A s.heap H locs → lv_has ls 16 [(0, .ref (a 0)), (1, .int x1), (2, .int x2), (4, .int x4), (5, .int x5), (6, .int x6), (7, .int x7), (8, .int x8), (9, .int x9)] → W p l e (mm_rr d) s m args below meth c H locs 0 0 (mm_Z below D A (wd_X9 cI cL cS cH a v_keptMany v_done v_rowsOf v_columnsOf v_folded v_wronged v_tapeMany v_textMany v_base v_at v_ends v_fault v_opened v_bentMany v_bentWrong v_moreWorn v_planned v_allWrong v_allWorn v_z v_wishedField v_isFound v_bestWrong v_bestWorn v_bestMany v_soughtBy v_sought v_soughtAt v_foundMany v_foundOrder v_isKept v_imageRows v_imageColumns v_imageFolded v_imageWronged v_bodies v_ran v_ownKind v_ownNumber v_limit v_changeWas v_changeIs w_shapeRows w_shapeColumns w_row w_column w_below w_face v_worn v_lastBend v_tape v_text v_names v_bends w_high w_to w_pileSize v_planLine v_planWay v_way1 v_bestWay v_order1 v_placeIn v_bodyKind v_trace v_shelf v_many v_items v_carried) none args s) (F0 m 94 ls []) := by
  obtain ⟨hx, hb, hml, hown, hts, hr, hlocks, hK, hSt⟩ := id C0
  intro n
  induction n with
  | zero =>
    intro x1 x2 x4 x5 x6 x7 x8 x9 v_rowsOf v_columnsOf v_shapeRows v_shapeColumns v_row v_column v_below v_face v_high v_to v_pileSize H locs ls hf
    cases (show none = some _ from hf)
  | succ n ih =>
    intro x1 x2 x4 x5 x6 x7 x8 x9 v_rowsOf v_columnsOf v_shapeRows v_shapeColumns v_row v_column v_below v_face v_high v_to v_pileSize H locs ls hf hP hD hS hl
    unfold fX9_movesAll_94 at hf
    refine lv_iload hx hb dX9_movesAll_94 (lv_at hl 8 rfl) ?_
    refine lv_bipush (v := 64) hx hb dX9_movesAll_96 (by decide) ?_
    refine lv_icmp_ge (tgt := 115) hx hb dX9_movesAll_98 (by decide) (fun c_11 => ?_) (fun c_11 => ?_)
    · have hf := mm_ip hf c_11
      refine lv_iconst (v := 0) hx hb dX9_movesAll_115 (by decide) ?_
      refine lv_istore (lv' := [(9, .int (0 : Int32)), (0, .ref (a 0)), (1, .int x1), (2, .int x2), (4, .int x4), (5, .int x5), (6, .int x6), (7, .int x7), (8, .int x8)]) hx hb dX9_movesAll_116 hl (by decide) rfl (fun ls hl => ?_)
      exact tX9_movesAll_118 hd C0 hA N  N _ _ _ _ _ _ _ _ _ _ _ _ _ _ _ _ _ _ _ H locs ls hf hP hD hS (lv_sub hl [1, 2, 3, 4, 5, 6, 7, 8, 0] rfl)
    · have hf := mm_in hf c_11
      refine lv_aload_n hx hb dX9_movesAll_101 rfl (lv_at hl 0 rfl) ?_
      refine mm_get C0 hP iw_X9 0 rfl rfl 33 (by decide) fl_X9_61 rfl dX9_movesAll_102 ?_
      refine lv_iload hx hb dX9_movesAll_105 (lv_at hl 8 rfl) ?_
      refine lv_iconst (v := 0) hx hb dX9_movesAll_107 (by decide) ?_
      obtain ⟨h_12, hf⟩ := mm_cks hf
      refine mm_iast C0 hP hD hS 18 rfl h_12 dX9_movesAll_108 (w2 := (wd_X9 cI cL cS cH a v_keptMany v_done v_rowsOf v_columnsOf v_folded v_wronged v_tapeMany v_textMany v_base v_at v_ends v_fault v_opened v_bentMany v_bentWrong v_moreWorn v_planned v_allWrong v_allWorn v_z v_wishedField v_isFound v_bestWrong v_bestWorn v_bestMany v_soughtBy v_sought v_soughtAt v_foundMany v_foundOrder v_isKept v_imageRows v_imageColumns v_imageFolded v_imageWronged v_bodies v_ran v_ownKind v_ownNumber v_limit v_changeWas v_changeIs v_shapeRows v_shapeColumns v_row v_column v_below v_face v_worn v_lastBend v_tape v_text v_names v_bends v_high v_to (mm_is v_pileSize x9 (0 : Int32)) v_planLine v_planWay v_way1 v_bestWay v_order1 v_placeIn v_bodyKind v_trace v_shelf v_many v_items v_carried)) rfl (fun H locs hP hD hS => ?_)
      generalize el_13 : (mm_is v_pileSize x9 (0 : Int32)) = l_13 at hP hD
      have hf := mm_nms hf el_13.symm
      obtain ⟨y_14, ey_14⟩ : ∃ z : Int32, z = x9 + (1 : Int32) := ⟨_, rfl⟩
      have hf := mm_nms hf ey_14
      refine lv_iinc (v := y_14) (lv' := [(9, .int y_14), (0, .ref (a 0)), (1, .int x1), (2, .int x2), (4, .int x4), (5, .int x5), (6, .int x6), (7, .int x7), (8, .int x8)]) hx hb dX9_movesAll_109 hl (k := 8) rfl (by rw [ey_14]; rfl) (by decide) rfl (fun ls hl => ?_)
      refine lv_goto (tgt := 94) hx hb dX9_movesAll_112 (by decide) ?_
      exact ih _ _ _ _ _ _ _ _ _ _ _ _ _ _ _ _ _ _ _ H locs ls hf hP hD hS (lv_sub hl [1, 2, 3, 4, 5, 6, 7, 8, 0] rfl)

def fX9_movesAll_89 (N : Nat)  (x1 : Int32) (x2 : Int32) (x4 : Int32) (x5 : Int32) (x6 : Int32) (x7 : Int32) (s0 : Int32) (v_rowsOf : Int32) (v_columnsOf : Int32) (v_shapeRows : List Int32) (v_shapeColumns : List Int32) (v_row : List Int32) (v_column : List Int32) (v_below : List Int32) (v_face : List Int32) (v_high : List Int32) (v_to : List Int32) (v_pileSize : List Int32) : Option (List Int32 × List Int32 × List Int32 × List Int32 × List Int32 × List Int32 × List Int32 × List Int32 × List Int32) :=
    fX9_movesAll_94 N N x1 x2 x4 x5 x6 x7 s0 (0 : Int32) v_rowsOf v_columnsOf v_shapeRows v_shapeColumns v_row v_column v_below v_face v_high v_to v_pileSize

set_option maxHeartbeats 4000000 in
set_option maxRecDepth 100000 in
theorem tX9_movesAll_89 {p : Program} {l : Launch} {e : Env} {s : State} {m : MethodId} {args : Array Value} {below : List Frame} {meth : Method} {c : Code} {D : va_G} {cI cL cS cH : ClassId} {A : Nat → Prop} {d : Nat} {a : Nat → Nat} (hd : 2 ≤ d) (C0 : mm_Cx p s m args meth c RX9 cX9_movesAll 16 none D (mm_T cI cL cS cH) A) (hA : ∀ q, s.heap.size ≤ q → A q) {v_keptMany : Int32} {v_done : Int32} {v_folded : Int32} {v_wronged : Int32} {v_tapeMany : Int32} {v_textMany : Int32} {v_base : Int32} {v_at : Int32} {v_ends : Int32} {v_fault : Int32} {v_opened : Int32} {v_bentMany : Int32} {v_bentWrong : Int32} {v_moreWorn : Int32} {v_planned : Int32} {v_allWrong : Int32} {v_allWorn : Int32} {v_z : Int32} {v_wishedField : Int32} {v_isFound : Bool} {v_bestWrong : Int32} {v_bestWorn : Int32} {v_bestMany : Int32} {v_soughtBy : Int32} {v_sought : Int32} {v_soughtAt : Int32} {v_foundMany : Int32} {v_foundOrder : Int32} {v_isKept : Bool} {v_imageRows : Int32} {v_imageColumns : Int32} {v_imageFolded : Int32} {v_imageWronged : Int32} {v_bodies : Int32} {v_ran : Int32} {v_ownKind : Int32} {v_ownNumber : Int32} {v_limit : List Int32} {v_changeWas : List Int32} {v_changeIs : List Int32} {v_worn : List Int32} {v_lastBend : List Int32} {v_tape : List Int32} {v_text : List Int32} {v_names : List Int32} {v_bends : List Int32} {v_planLine : List Int32} {v_planWay : List Int32} {v_way1 : List Int32} {v_bestWay : List Int32} {v_order1 : List Int32} {v_placeIn : List Int32} {v_bodyKind : List Int32} {v_trace : List Int32} {v_shelf : List Int32} {v_many : List Int32} {v_items : List Int64} {v_carried : List Int64} {w_shapeRows : List Int32} {w_shapeColumns : List Int32} {w_row : List Int32} {w_column : List Int32} {w_below : List Int32} {w_face : List Int32} {w_high : List Int32} {w_to : List Int32} {w_pileSize : List Int32} (N : Nat)  : ∀ (x1 : Int32) (x2 : Int32) (x4 : Int32) (x5 : Int32) (x6 : Int32) (x7 : Int32) (s0 : Int32) (v_rowsOf : Int32) (v_columnsOf : Int32) (v_shapeRows : List Int32) (v_shapeColumns : List Int32) (v_row : List Int32) (v_column : List Int32) (v_below : List Int32) (v_face : List Int32) (v_high : List Int32) (v_to : List Int32) (v_pileSize : List Int32) (H : Heap) (locs : List Loc) (ls : Array Slot), fX9_movesAll_89 N x1 x2 x4 x5 x6 x7 s0 v_rowsOf v_columnsOf v_shapeRows v_shapeColumns v_row v_column v_below v_face v_high v_to v_pileSize = some (w_shapeRows, w_shapeColumns, w_row, w_column, w_below, w_face, w_high, w_to, w_pileSize) → va_P D mm_cl (wd_X9 cI cL cS cH a v_keptMany v_done v_rowsOf v_columnsOf v_folded v_wronged v_tapeMany v_textMany v_base v_at v_ends v_fault v_opened v_bentMany v_bentWrong v_moreWorn v_planned v_allWrong v_allWorn v_z v_wishedField v_isFound v_bestWrong v_bestWorn v_bestMany v_soughtBy v_sought v_soughtAt v_foundMany v_foundOrder v_isKept v_imageRows v_imageColumns v_imageFolded v_imageWronged v_bodies v_ran v_ownKind v_ownNumber v_limit v_changeWas v_changeIs v_shapeRows v_shapeColumns v_row v_column v_below v_face v_worn v_lastBend v_tape v_text v_names v_bends v_high v_to v_pileSize v_planLine v_planWay v_way1 v_bestWay v_order1 v_placeIn v_bodyKind v_trace v_shelf v_many v_items v_carried) H → va_D A (wd_X9 cI cL cS cH a v_keptMany v_done v_rowsOf v_columnsOf v_folded v_wronged v_tapeMany v_textMany v_base v_at v_ends v_fault v_opened v_bentMany v_bentWrong v_moreWorn v_planned v_allWrong v_allWorn v_z v_wishedField v_isFound v_bestWrong v_bestWorn v_bestMany v_soughtBy v_sought v_soughtAt v_foundMany v_foundOrder v_isKept v_imageRows v_imageColumns v_imageFolded v_imageWronged v_bodies v_ran v_ownKind v_ownNumber v_limit v_changeWas v_changeIs v_shapeRows v_shapeColumns v_row v_column v_below v_face v_worn v_lastBend v_tape v_text v_names v_bends v_high v_to v_pileSize v_planLine v_planWay v_way1 v_bestWay v_order1 v_placeIn v_bodyKind v_trace v_shelf v_many v_items v_carried) → va_S A s.heap H locs → lv_has ls 16 [(0, .ref (a 0)), (1, .int x1), (2, .int x2), (4, .int x4), (5, .int x5), (6, .int x6), (7, .int x7)] → W p l e (mm_rr d) s m args below meth c H locs 0 0 (mm_Z below D A (wd_X9 cI cL cS cH a v_keptMany v_done v_rowsOf v_columnsOf v_folded v_wronged v_tapeMany v_textMany v_base v_at v_ends v_fault v_opened v_bentMany v_bentWrong v_moreWorn v_planned v_allWrong v_allWorn v_z v_wishedField v_isFound v_bestWrong v_bestWorn v_bestMany v_soughtBy v_sought v_soughtAt v_foundMany v_foundOrder v_isKept v_imageRows v_imageColumns v_imageFolded v_imageWronged v_bodies v_ran v_ownKind v_ownNumber v_limit v_changeWas v_changeIs w_shapeRows w_shapeColumns w_row w_column w_below w_face v_worn v_lastBend v_tape v_text v_names v_bends w_high w_to w_pileSize v_planLine v_planWay v_way1 v_bestWay v_order1 v_placeIn v_bodyKind v_trace v_shelf v_many v_items v_carried) none args s) (F0 m 89 ls [.int s0]) := by
  obtain ⟨hx, hb, hml, hown, hts, hr, hlocks, hK, hSt⟩ := id C0
  intro x1 x2 x4 x5 x6 x7 s0 v_rowsOf v_columnsOf v_shapeRows v_shapeColumns v_row v_column v_below v_face v_high v_to v_pileSize H locs ls hf hP hD hS hl
  unfold fX9_movesAll_89 at hf
  refine lv_istore (lv' := [(8, .int s0), (0, .ref (a 0)), (1, .int x1), (2, .int x2), (4, .int x4), (5, .int x5), (6, .int x6), (7, .int x7)]) hx hb dX9_movesAll_89 hl (by decide) rfl (fun ls hl => ?_)
  refine lv_iconst (v := 0) hx hb dX9_movesAll_91 (by decide) ?_
  refine lv_istore (lv' := [(9, .int (0 : Int32)), (8, .int s0), (0, .ref (a 0)), (1, .int x1), (2, .int x2), (4, .int x4), (5, .int x5), (6, .int x6), (7, .int x7)]) hx hb dX9_movesAll_92 hl (by decide) rfl (fun ls hl => ?_)
  exact tX9_movesAll_94 hd C0 hA N  N _ _ _ _ _ _ _ _ _ _ _ _ _ _ _ _ _ _ _ H locs ls hf hP hD hS (lv_sub hl [2, 3, 4, 5, 6, 7, 8, 1, 0] rfl)

def fX9_movesAll_59 (N : Nat)  (x1 : Int32) (x2 : Int32) (x4 : Int32) (x5 : Int32) (x6 : Int32) (s0 : Int32) (v_rowsOf : Int32) (v_columnsOf : Int32) (v_shapeRows : List Int32) (v_shapeColumns : List Int32) (v_row : List Int32) (v_column : List Int32) (v_below : List Int32) (v_face : List Int32) (v_high : List Int32) (v_to : List Int32) (v_pileSize : List Int32) : Option (List Int32 × List Int32 × List Int32 × List Int32 × List Int32 × List Int32 × List Int32 × List Int32 × List Int32) :=
    if x5 = 0 then
    (if 0 ≤ (((2 : Int32) * x2) - s0) then
    (fX9_movesAll_89 N x1 x2 x4 x5 x6 s0 (0 : Int32) v_rowsOf v_columnsOf v_shapeRows v_shapeColumns v_row v_column v_below v_face v_high v_to v_pileSize)
    else (fX9_movesAll_89 N x1 x2 x4 x5 x6 s0 (((2 : Int32) * x2) - s0) v_rowsOf v_columnsOf v_shapeRows v_shapeColumns v_row v_column v_below v_face v_high v_to v_pileSize))
    else (fX9_movesAll_89 N x1 x2 x4 x5 x6 s0 x2 v_rowsOf v_columnsOf v_shapeRows v_shapeColumns v_row v_column v_below v_face v_high v_to v_pileSize)

set_option maxHeartbeats 4000000 in
set_option maxRecDepth 100000 in
theorem tX9_movesAll_59 {p : Program} {l : Launch} {e : Env} {s : State} {m : MethodId} {args : Array Value} {below : List Frame} {meth : Method} {c : Code} {D : va_G} {cI cL cS cH : ClassId} {A : Nat → Prop} {d : Nat} {a : Nat → Nat} (hd : 2 ≤ d) (C0 : mm_Cx p s m args meth c RX9 cX9_movesAll 16 none D (mm_T cI cL cS cH) A) (hA : ∀ q, s.heap.size ≤ q → A q) {v_keptMany : Int32} {v_done : Int32} {v_folded : Int32} {v_wronged : Int32} {v_tapeMany : Int32} {v_textMany : Int32} {v_base : Int32} {v_at : Int32} {v_ends : Int32} {v_fault : Int32} {v_opened : Int32} {v_bentMany : Int32} {v_bentWrong : Int32} {v_moreWorn : Int32} {v_planned : Int32} {v_allWrong : Int32} {v_allWorn : Int32} {v_z : Int32} {v_wishedField : Int32} {v_isFound : Bool} {v_bestWrong : Int32} {v_bestWorn : Int32} {v_bestMany : Int32} {v_soughtBy : Int32} {v_sought : Int32} {v_soughtAt : Int32} {v_foundMany : Int32} {v_foundOrder : Int32} {v_isKept : Bool} {v_imageRows : Int32} {v_imageColumns : Int32} {v_imageFolded : Int32} {v_imageWronged : Int32} {v_bodies : Int32} {v_ran : Int32} {v_ownKind : Int32} {v_ownNumber : Int32} {v_limit : List Int32} {v_changeWas : List Int32} {v_changeIs : List Int32} {v_worn : List Int32} {v_lastBend : List Int32} {v_tape : List Int32} {v_text : List Int32} {v_names : List Int32} {v_bends : List Int32} {v_planLine : List Int32} {v_planWay : List Int32} {v_way1 : List Int32} {v_bestWay : List Int32} {v_order1 : List Int32} {v_placeIn : List Int32} {v_bodyKind : List Int32} {v_trace : List Int32} {v_shelf : List Int32} {v_many : List Int32} {v_items : List Int64} {v_carried : List Int64} {w_shapeRows : List Int32} {w_shapeColumns : List Int32} {w_row : List Int32} {w_column : List Int32} {w_below : List Int32} {w_face : List Int32} {w_high : List Int32} {w_to : List Int32} {w_pileSize : List Int32} (N : Nat)  : ∀ (x1 : Int32) (x2 : Int32) (x4 : Int32) (x5 : Int32) (x6 : Int32) (s0 : Int32) (v_rowsOf : Int32) (v_columnsOf : Int32) (v_shapeRows : List Int32) (v_shapeColumns : List Int32) (v_row : List Int32) (v_column : List Int32) (v_below : List Int32) (v_face : List Int32) (v_high : List Int32) (v_to : List Int32) (v_pileSize : List Int32) (H : Heap) (locs : List Loc) (ls : Array Slot), fX9_movesAll_59 N x1 x2 x4 x5 x6 s0 v_rowsOf v_columnsOf v_shapeRows v_shapeColumns v_row v_column v_below v_face v_high v_to v_pileSize = some (w_shapeRows, w_shapeColumns, w_row, w_column, w_below, w_face, w_high, w_to, w_pileSize) → va_P D mm_cl (wd_X9 cI cL cS cH a v_keptMany v_done v_rowsOf v_columnsOf v_folded v_wronged v_tapeMany v_textMany v_base v_at v_ends v_fault v_opened v_bentMany v_bentWrong v_moreWorn v_planned v_allWrong v_allWorn v_z v_wishedField v_isFound v_bestWrong v_bestWorn v_bestMany v_soughtBy v_sought v_soughtAt v_foundMany v_foundOrder v_isKept v_imageRows v_imageColumns v_imageFolded v_imageWronged v_bodies v_ran v_ownKind v_ownNumber v_limit v_changeWas v_changeIs v_shapeRows v_shapeColumns v_row v_column v_below v_face v_worn v_lastBend v_tape v_text v_names v_bends v_high v_to v_pileSize v_planLine v_planWay v_way1 v_bestWay v_order1 v_placeIn v_bodyKind v_trace v_shelf v_many v_items v_carried) H → va_D A (wd_X9 cI cL cS cH a v_keptMany v_done v_rowsOf v_columnsOf v_folded v_wronged v_tapeMany v_textMany v_base v_at v_ends v_fault v_opened v_bentMany v_bentWrong v_moreWorn v_planned v_allWrong v_allWorn v_z v_wishedField v_isFound v_bestWrong v_bestWorn v_bestMany v_soughtBy v_sought v_soughtAt v_foundMany v_foundOrder v_isKept v_imageRows v_imageColumns v_imageFolded v_imageWronged v_bodies v_ran v_ownKind v_ownNumber v_limit v_changeWas v_changeIs v_shapeRows v_shapeColumns v_row v_column v_below v_face v_worn v_lastBend v_tape v_text v_names v_bends v_high v_to v_pileSize v_planLine v_planWay v_way1 v_bestWay v_order1 v_placeIn v_bodyKind v_trace v_shelf v_many v_items v_carried) → va_S A s.heap H locs → lv_has ls 16 [(0, .ref (a 0)), (1, .int x1), (2, .int x2), (4, .int x4), (5, .int x5), (6, .int x6)] → W p l e (mm_rr d) s m args below meth c H locs 0 0 (mm_Z below D A (wd_X9 cI cL cS cH a v_keptMany v_done v_rowsOf v_columnsOf v_folded v_wronged v_tapeMany v_textMany v_base v_at v_ends v_fault v_opened v_bentMany v_bentWrong v_moreWorn v_planned v_allWrong v_allWorn v_z v_wishedField v_isFound v_bestWrong v_bestWorn v_bestMany v_soughtBy v_sought v_soughtAt v_foundMany v_foundOrder v_isKept v_imageRows v_imageColumns v_imageFolded v_imageWronged v_bodies v_ran v_ownKind v_ownNumber v_limit v_changeWas v_changeIs w_shapeRows w_shapeColumns w_row w_column w_below w_face v_worn v_lastBend v_tape v_text v_names v_bends w_high w_to w_pileSize v_planLine v_planWay v_way1 v_bestWay v_order1 v_placeIn v_bodyKind v_trace v_shelf v_many v_items v_carried) none args s) (F0 m 59 ls [.int s0]) := by
  obtain ⟨hx, hb, hml, hown, hts, hr, hlocks, hK, hSt⟩ := id C0
  intro x1 x2 x4 x5 x6 s0 v_rowsOf v_columnsOf v_shapeRows v_shapeColumns v_row v_column v_below v_face v_high v_to v_pileSize H locs ls hf hP hD hS hl
  unfold fX9_movesAll_59 at hf
  refine lv_istore (lv' := [(7, .int s0), (0, .ref (a 0)), (1, .int x1), (2, .int x2), (4, .int x4), (5, .int x5), (6, .int x6)]) hx hb dX9_movesAll_59 hl (by decide) rfl (fun ls hl => ?_)
  refine lv_iload hx hb dX9_movesAll_61 (lv_at hl 5 rfl) ?_
  refine lv_if_eq (tgt := 70) hx hb dX9_movesAll_63 (by decide) (fun c_9 => ?_) (fun c_9 => ?_)
  · have hf := mm_ip hf c_9
    refine lv_iconst (v := 2) hx hb dX9_movesAll_70 (by decide) ?_
    refine lv_iload_n hx hb dX9_movesAll_71 rfl (lv_at hl 3 rfl) ?_
    refine lv_imul hx hb dX9_movesAll_72 ?_
    refine lv_iload hx hb dX9_movesAll_73 (lv_at hl 0 rfl) ?_
    refine lv_isub hx hb dX9_movesAll_75 ?_
    refine lv_if_ge (tgt := 88) hx hb dX9_movesAll_76 (by decide) (fun c_10 => ?_) (fun c_10 => ?_)
    · have hf := mm_ip hf c_10
      refine lv_iconst (v := 0) hx hb dX9_movesAll_88 (by decide) ?_
      exact tX9_movesAll_89 hd C0 hA N  _ _ _ _ _ _ _ _ _ _ _ _ _ _ _ _ _ _ H locs ls hf hP hD hS (lv_sub hl [1, 2, 3, 4, 5, 6, 0] rfl)
    · have hf := mm_in hf c_10
      refine lv_iconst (v := 2) hx hb dX9_movesAll_79 (by decide) ?_
      refine lv_iload_n hx hb dX9_movesAll_80 rfl (lv_at hl 3 rfl) ?_
      refine lv_imul hx hb dX9_movesAll_81 ?_
      refine lv_iload hx hb dX9_movesAll_82 (lv_at hl 0 rfl) ?_
      refine lv_isub hx hb dX9_movesAll_84 ?_
      refine lv_goto (tgt := 89) hx hb dX9_movesAll_85 (by decide) ?_
      exact tX9_movesAll_89 hd C0 hA N  _ _ _ _ _ _ _ _ _ _ _ _ _ _ _ _ _ _ H locs ls hf hP hD hS (lv_sub hl [1, 2, 3, 4, 5, 6, 0] rfl)
  · have hf := mm_in hf c_9
    refine lv_iload_n hx hb dX9_movesAll_66 rfl (lv_at hl 3 rfl) ?_
    refine lv_goto (tgt := 89) hx hb dX9_movesAll_67 (by decide) ?_
    exact tX9_movesAll_89 hd C0 hA N  _ _ _ _ _ _ _ _ _ _ _ _ _ _ _ _ _ _ H locs ls hf hP hD hS (lv_sub hl [1, 2, 3, 4, 5, 6, 0] rfl)

def fX9_movesAll_37 (N : Nat)  (x1 : Int32) (x2 : Int32) (x4 : Int32) (x5 : Int32) (s0 : Int32) (v_rowsOf : Int32) (v_columnsOf : Int32) (v_shapeRows : List Int32) (v_shapeColumns : List Int32) (v_row : List Int32) (v_column : List Int32) (v_below : List Int32) (v_face : List Int32) (v_high : List Int32) (v_to : List Int32) (v_pileSize : List Int32) : Option (List Int32 × List Int32 × List Int32 × List Int32 × List Int32 × List Int32 × List Int32 × List Int32 × List Int32) :=
    if x4 = 0 then
    (mm_ck (mm_inb x1 v_shapeRows.length) (fX9_movesAll_59 N x1 x2 x4 x5 s0 (mm_ig v_shapeRows x1) v_rowsOf v_columnsOf v_shapeRows v_shapeColumns v_row v_column v_below v_face v_high v_to v_pileSize))
    else (mm_ck (mm_inb x1 v_shapeColumns.length) (fX9_movesAll_59 N x1 x2 x4 x5 s0 (mm_ig v_shapeColumns x1) v_rowsOf v_columnsOf v_shapeRows v_shapeColumns v_row v_column v_below v_face v_high v_to v_pileSize))

set_option maxHeartbeats 4000000 in
set_option maxRecDepth 100000 in
theorem tX9_movesAll_37 {p : Program} {l : Launch} {e : Env} {s : State} {m : MethodId} {args : Array Value} {below : List Frame} {meth : Method} {c : Code} {D : va_G} {cI cL cS cH : ClassId} {A : Nat → Prop} {d : Nat} {a : Nat → Nat} (hd : 2 ≤ d) (C0 : mm_Cx p s m args meth c RX9 cX9_movesAll 16 none D (mm_T cI cL cS cH) A) (hA : ∀ q, s.heap.size ≤ q → A q) {v_keptMany : Int32} {v_done : Int32} {v_folded : Int32} {v_wronged : Int32} {v_tapeMany : Int32} {v_textMany : Int32} {v_base : Int32} {v_at : Int32} {v_ends : Int32} {v_fault : Int32} {v_opened : Int32} {v_bentMany : Int32} {v_bentWrong : Int32} {v_moreWorn : Int32} {v_planned : Int32} {v_allWrong : Int32} {v_allWorn : Int32} {v_z : Int32} {v_wishedField : Int32} {v_isFound : Bool} {v_bestWrong : Int32} {v_bestWorn : Int32} {v_bestMany : Int32} {v_soughtBy : Int32} {v_sought : Int32} {v_soughtAt : Int32} {v_foundMany : Int32} {v_foundOrder : Int32} {v_isKept : Bool} {v_imageRows : Int32} {v_imageColumns : Int32} {v_imageFolded : Int32} {v_imageWronged : Int32} {v_bodies : Int32} {v_ran : Int32} {v_ownKind : Int32} {v_ownNumber : Int32} {v_limit : List Int32} {v_changeWas : List Int32} {v_changeIs : List Int32} {v_worn : List Int32} {v_lastBend : List Int32} {v_tape : List Int32} {v_text : List Int32} {v_names : List Int32} {v_bends : List Int32} {v_planLine : List Int32} {v_planWay : List Int32} {v_way1 : List Int32} {v_bestWay : List Int32} {v_order1 : List Int32} {v_placeIn : List Int32} {v_bodyKind : List Int32} {v_trace : List Int32} {v_shelf : List Int32} {v_many : List Int32} {v_items : List Int64} {v_carried : List Int64} {w_shapeRows : List Int32} {w_shapeColumns : List Int32} {w_row : List Int32} {w_column : List Int32} {w_below : List Int32} {w_face : List Int32} {w_high : List Int32} {w_to : List Int32} {w_pileSize : List Int32} (N : Nat)  : ∀ (x1 : Int32) (x2 : Int32) (x4 : Int32) (x5 : Int32) (s0 : Int32) (v_rowsOf : Int32) (v_columnsOf : Int32) (v_shapeRows : List Int32) (v_shapeColumns : List Int32) (v_row : List Int32) (v_column : List Int32) (v_below : List Int32) (v_face : List Int32) (v_high : List Int32) (v_to : List Int32) (v_pileSize : List Int32) (H : Heap) (locs : List Loc) (ls : Array Slot), fX9_movesAll_37 N x1 x2 x4 x5 s0 v_rowsOf v_columnsOf v_shapeRows v_shapeColumns v_row v_column v_below v_face v_high v_to v_pileSize = some (w_shapeRows, w_shapeColumns, w_row, w_column, w_below, w_face, w_high, w_to, w_pileSize) → va_P D mm_cl (wd_X9 cI cL cS cH a v_keptMany v_done v_rowsOf v_columnsOf v_folded v_wronged v_tapeMany v_textMany v_base v_at v_ends v_fault v_opened v_bentMany v_bentWrong v_moreWorn v_planned v_allWrong v_allWorn v_z v_wishedField v_isFound v_bestWrong v_bestWorn v_bestMany v_soughtBy v_sought v_soughtAt v_foundMany v_foundOrder v_isKept v_imageRows v_imageColumns v_imageFolded v_imageWronged v_bodies v_ran v_ownKind v_ownNumber v_limit v_changeWas v_changeIs v_shapeRows v_shapeColumns v_row v_column v_below v_face v_worn v_lastBend v_tape v_text v_names v_bends v_high v_to v_pileSize v_planLine v_planWay v_way1 v_bestWay v_order1 v_placeIn v_bodyKind v_trace v_shelf v_many v_items v_carried) H → va_D A (wd_X9 cI cL cS cH a v_keptMany v_done v_rowsOf v_columnsOf v_folded v_wronged v_tapeMany v_textMany v_base v_at v_ends v_fault v_opened v_bentMany v_bentWrong v_moreWorn v_planned v_allWrong v_allWorn v_z v_wishedField v_isFound v_bestWrong v_bestWorn v_bestMany v_soughtBy v_sought v_soughtAt v_foundMany v_foundOrder v_isKept v_imageRows v_imageColumns v_imageFolded v_imageWronged v_bodies v_ran v_ownKind v_ownNumber v_limit v_changeWas v_changeIs v_shapeRows v_shapeColumns v_row v_column v_below v_face v_worn v_lastBend v_tape v_text v_names v_bends v_high v_to v_pileSize v_planLine v_planWay v_way1 v_bestWay v_order1 v_placeIn v_bodyKind v_trace v_shelf v_many v_items v_carried) → va_S A s.heap H locs → lv_has ls 16 [(0, .ref (a 0)), (1, .int x1), (2, .int x2), (4, .int x4), (5, .int x5)] → W p l e (mm_rr d) s m args below meth c H locs 0 0 (mm_Z below D A (wd_X9 cI cL cS cH a v_keptMany v_done v_rowsOf v_columnsOf v_folded v_wronged v_tapeMany v_textMany v_base v_at v_ends v_fault v_opened v_bentMany v_bentWrong v_moreWorn v_planned v_allWrong v_allWorn v_z v_wishedField v_isFound v_bestWrong v_bestWorn v_bestMany v_soughtBy v_sought v_soughtAt v_foundMany v_foundOrder v_isKept v_imageRows v_imageColumns v_imageFolded v_imageWronged v_bodies v_ran v_ownKind v_ownNumber v_limit v_changeWas v_changeIs w_shapeRows w_shapeColumns w_row w_column w_below w_face v_worn v_lastBend v_tape v_text v_names v_bends w_high w_to w_pileSize v_planLine v_planWay v_way1 v_bestWay v_order1 v_placeIn v_bodyKind v_trace v_shelf v_many v_items v_carried) none args s) (F0 m 37 ls [.int s0]) := by
  obtain ⟨hx, hb, hml, hown, hts, hr, hlocks, hK, hSt⟩ := id C0
  intro x1 x2 x4 x5 s0 v_rowsOf v_columnsOf v_shapeRows v_shapeColumns v_row v_column v_below v_face v_high v_to v_pileSize H locs ls hf hP hD hS hl
  unfold fX9_movesAll_37 at hf
  refine lv_istore (lv' := [(6, .int s0), (0, .ref (a 0)), (1, .int x1), (2, .int x2), (4, .int x4), (5, .int x5)]) hx hb dX9_movesAll_37 hl (by decide) rfl (fun ls hl => ?_)
  refine lv_iload hx hb dX9_movesAll_39 (lv_at hl 4 rfl) ?_
  refine lv_if_eq (tgt := 53) hx hb dX9_movesAll_41 (by decide) (fun c_6 => ?_) (fun c_6 => ?_)
  · have hf := mm_ip hf c_6
    refine lv_aload_n hx hb dX9_movesAll_53 rfl (lv_at hl 1 rfl) ?_
    refine mm_get C0 hP iw_X9 0 rfl rfl 7 (by decide) fl_X9_19 rfl dX9_movesAll_54 ?_
    refine lv_iload_n hx hb dX9_movesAll_57 rfl (lv_at hl 2 rfl) ?_
    obtain ⟨h_7, hf⟩ := mm_cks hf
    refine mm_iald C0 hP 4 rfl h_7 dX9_movesAll_58 ?_
    exact tX9_movesAll_59 hd C0 hA N  _ _ _ _ _ _ _ _ _ _ _ _ _ _ _ _ _ H locs ls hf hP hD hS (lv_sub hl [1, 2, 3, 4, 5, 0] rfl)
  · have hf := mm_in hf c_6
    refine lv_aload_n hx hb dX9_movesAll_44 rfl (lv_at hl 1 rfl) ?_
    refine mm_get C0 hP iw_X9 0 rfl rfl 8 (by decide) fl_X9_22 rfl dX9_movesAll_45 ?_
    refine lv_iload_n hx hb dX9_movesAll_48 rfl (lv_at hl 2 rfl) ?_
    obtain ⟨h_8, hf⟩ := mm_cks hf
    refine mm_iald C0 hP 5 rfl h_8 dX9_movesAll_49 ?_
    refine lv_goto (tgt := 59) hx hb dX9_movesAll_50 (by decide) ?_
    exact tX9_movesAll_59 hd C0 hA N  _ _ _ _ _ _ _ _ _ _ _ _ _ _ _ _ _ H locs ls hf hP hD hS (lv_sub hl [1, 2, 3, 4, 5, 0] rfl)

def fX9_movesAll_24 (N : Nat)  (x1 : Int32) (x2 : Int32) (x3 : Int32) (x4 : Int32) (s0 : Int32) (v_rowsOf : Int32) (v_columnsOf : Int32) (v_shapeRows : List Int32) (v_shapeColumns : List Int32) (v_row : List Int32) (v_column : List Int32) (v_below : List Int32) (v_face : List Int32) (v_high : List Int32) (v_to : List Int32) (v_pileSize : List Int32) : Option (List Int32 × List Int32 × List Int32 × List Int32 × List Int32 × List Int32 × List Int32 × List Int32 × List Int32) :=
    mm_ck (mm_nz (2 : Int32)) (if (mm_rem x3 (2 : Int32)) = 0 then
    (fX9_movesAll_37 N x1 x2 x4 s0 (1 : Int32) v_rowsOf v_columnsOf v_shapeRows v_shapeColumns v_row v_column v_below v_face v_high v_to v_pileSize)
    else (fX9_movesAll_37 N x1 x2 x4 s0 (0 : Int32) v_rowsOf v_columnsOf v_shapeRows v_shapeColumns v_row v_column v_below v_face v_high v_to v_pileSize))

set_option maxHeartbeats 4000000 in
set_option maxRecDepth 100000 in
theorem tX9_movesAll_24 {p : Program} {l : Launch} {e : Env} {s : State} {m : MethodId} {args : Array Value} {below : List Frame} {meth : Method} {c : Code} {D : va_G} {cI cL cS cH : ClassId} {A : Nat → Prop} {d : Nat} {a : Nat → Nat} (hd : 2 ≤ d) (C0 : mm_Cx p s m args meth c RX9 cX9_movesAll 16 none D (mm_T cI cL cS cH) A) (hA : ∀ q, s.heap.size ≤ q → A q) {v_keptMany : Int32} {v_done : Int32} {v_folded : Int32} {v_wronged : Int32} {v_tapeMany : Int32} {v_textMany : Int32} {v_base : Int32} {v_at : Int32} {v_ends : Int32} {v_fault : Int32} {v_opened : Int32} {v_bentMany : Int32} {v_bentWrong : Int32} {v_moreWorn : Int32} {v_planned : Int32} {v_allWrong : Int32} {v_allWorn : Int32} {v_z : Int32} {v_wishedField : Int32} {v_isFound : Bool} {v_bestWrong : Int32} {v_bestWorn : Int32} {v_bestMany : Int32} {v_soughtBy : Int32} {v_sought : Int32} {v_soughtAt : Int32} {v_foundMany : Int32} {v_foundOrder : Int32} {v_isKept : Bool} {v_imageRows : Int32} {v_imageColumns : Int32} {v_imageFolded : Int32} {v_imageWronged : Int32} {v_bodies : Int32} {v_ran : Int32} {v_ownKind : Int32} {v_ownNumber : Int32} {v_limit : List Int32} {v_changeWas : List Int32} {v_changeIs : List Int32} {v_worn : List Int32} {v_lastBend : List Int32} {v_tape : List Int32} {v_text : List Int32} {v_names : List Int32} {v_bends : List Int32} {v_planLine : List Int32} {v_planWay : List Int32} {v_way1 : List Int32} {v_bestWay : List Int32} {v_order1 : List Int32} {v_placeIn : List Int32} {v_bodyKind : List Int32} {v_trace : List Int32} {v_shelf : List Int32} {v_many : List Int32} {v_items : List Int64} {v_carried : List Int64} {w_shapeRows : List Int32} {w_shapeColumns : List Int32} {w_row : List Int32} {w_column : List Int32} {w_below : List Int32} {w_face : List Int32} {w_high : List Int32} {w_to : List Int32} {w_pileSize : List Int32} (N : Nat)  : ∀ (x1 : Int32) (x2 : Int32) (x3 : Int32) (x4 : Int32) (s0 : Int32) (v_rowsOf : Int32) (v_columnsOf : Int32) (v_shapeRows : List Int32) (v_shapeColumns : List Int32) (v_row : List Int32) (v_column : List Int32) (v_below : List Int32) (v_face : List Int32) (v_high : List Int32) (v_to : List Int32) (v_pileSize : List Int32) (H : Heap) (locs : List Loc) (ls : Array Slot), fX9_movesAll_24 N x1 x2 x3 x4 s0 v_rowsOf v_columnsOf v_shapeRows v_shapeColumns v_row v_column v_below v_face v_high v_to v_pileSize = some (w_shapeRows, w_shapeColumns, w_row, w_column, w_below, w_face, w_high, w_to, w_pileSize) → va_P D mm_cl (wd_X9 cI cL cS cH a v_keptMany v_done v_rowsOf v_columnsOf v_folded v_wronged v_tapeMany v_textMany v_base v_at v_ends v_fault v_opened v_bentMany v_bentWrong v_moreWorn v_planned v_allWrong v_allWorn v_z v_wishedField v_isFound v_bestWrong v_bestWorn v_bestMany v_soughtBy v_sought v_soughtAt v_foundMany v_foundOrder v_isKept v_imageRows v_imageColumns v_imageFolded v_imageWronged v_bodies v_ran v_ownKind v_ownNumber v_limit v_changeWas v_changeIs v_shapeRows v_shapeColumns v_row v_column v_below v_face v_worn v_lastBend v_tape v_text v_names v_bends v_high v_to v_pileSize v_planLine v_planWay v_way1 v_bestWay v_order1 v_placeIn v_bodyKind v_trace v_shelf v_many v_items v_carried) H → va_D A (wd_X9 cI cL cS cH a v_keptMany v_done v_rowsOf v_columnsOf v_folded v_wronged v_tapeMany v_textMany v_base v_at v_ends v_fault v_opened v_bentMany v_bentWrong v_moreWorn v_planned v_allWrong v_allWorn v_z v_wishedField v_isFound v_bestWrong v_bestWorn v_bestMany v_soughtBy v_sought v_soughtAt v_foundMany v_foundOrder v_isKept v_imageRows v_imageColumns v_imageFolded v_imageWronged v_bodies v_ran v_ownKind v_ownNumber v_limit v_changeWas v_changeIs v_shapeRows v_shapeColumns v_row v_column v_below v_face v_worn v_lastBend v_tape v_text v_names v_bends v_high v_to v_pileSize v_planLine v_planWay v_way1 v_bestWay v_order1 v_placeIn v_bodyKind v_trace v_shelf v_many v_items v_carried) → va_S A s.heap H locs → lv_has ls 16 [(0, .ref (a 0)), (1, .int x1), (2, .int x2), (3, .int x3), (4, .int x4)] → W p l e (mm_rr d) s m args below meth c H locs 0 0 (mm_Z below D A (wd_X9 cI cL cS cH a v_keptMany v_done v_rowsOf v_columnsOf v_folded v_wronged v_tapeMany v_textMany v_base v_at v_ends v_fault v_opened v_bentMany v_bentWrong v_moreWorn v_planned v_allWrong v_allWorn v_z v_wishedField v_isFound v_bestWrong v_bestWorn v_bestMany v_soughtBy v_sought v_soughtAt v_foundMany v_foundOrder v_isKept v_imageRows v_imageColumns v_imageFolded v_imageWronged v_bodies v_ran v_ownKind v_ownNumber v_limit v_changeWas v_changeIs w_shapeRows w_shapeColumns w_row w_column w_below w_face v_worn v_lastBend v_tape v_text v_names v_bends w_high w_to w_pileSize v_planLine v_planWay v_way1 v_bestWay v_order1 v_placeIn v_bodyKind v_trace v_shelf v_many v_items v_carried) none args s) (F0 m 24 ls [.int s0]) := by
  obtain ⟨hx, hb, hml, hown, hts, hr, hlocks, hK, hSt⟩ := id C0
  intro x1 x2 x3 x4 s0 v_rowsOf v_columnsOf v_shapeRows v_shapeColumns v_row v_column v_below v_face v_high v_to v_pileSize H locs ls hf hP hD hS hl
  unfold fX9_movesAll_24 at hf
  refine lv_istore (lv' := [(5, .int s0), (0, .ref (a 0)), (1, .int x1), (2, .int x2), (3, .int x3), (4, .int x4)]) hx hb dX9_movesAll_24 hl (by decide) rfl (fun ls hl => ?_)
  refine lv_iload_n hx hb dX9_movesAll_26 rfl (lv_at hl 4 rfl) ?_
  refine lv_iconst (v := 2) hx hb dX9_movesAll_27 (by decide) ?_
  obtain ⟨h_4, hf⟩ := mm_cks hf
  refine lv_irem hx hb dX9_movesAll_28 (mm_nzs h_4) ?_
  refine lv_if_ne (tgt := 36) hx hb dX9_movesAll_29 (by decide) (fun c_5 => ?_) (fun c_5 => ?_)
  · have hf := mm_in hf c_5
    refine lv_iconst (v := 0) hx hb dX9_movesAll_36 (by decide) ?_
    exact tX9_movesAll_37 hd C0 hA N  _ _ _ _ _ _ _ _ _ _ _ _ _ _ _ _ H locs ls hf hP hD hS (lv_sub hl [1, 2, 3, 5, 0] rfl)
  · have hf := mm_ip hf c_5
    refine lv_iconst (v := 1) hx hb dX9_movesAll_32 (by decide) ?_
    refine lv_goto (tgt := 37) hx hb dX9_movesAll_33 (by decide) ?_
    exact tX9_movesAll_37 hd C0 hA N  _ _ _ _ _ _ _ _ _ _ _ _ _ _ _ _ H locs ls hf hP hD hS (lv_sub hl [1, 2, 3, 5, 0] rfl)

def fX9_movesAll_10 (N : Nat)  (x1 : Int32) (x2 : Int32) (x3 : Int32) (s0 : Int32) (v_rowsOf : Int32) (v_columnsOf : Int32) (v_shapeRows : List Int32) (v_shapeColumns : List Int32) (v_row : List Int32) (v_column : List Int32) (v_below : List Int32) (v_face : List Int32) (v_high : List Int32) (v_to : List Int32) (v_pileSize : List Int32) : Option (List Int32 × List Int32 × List Int32 × List Int32 × List Int32 × List Int32 × List Int32 × List Int32 × List Int32) :=
    mm_ck (mm_nz (4 : Int32)) (if (2 : Int32) ≤ (mm_rem x3 (4 : Int32)) then
    (fX9_movesAll_24 N x1 x2 x3 s0 (0 : Int32) v_rowsOf v_columnsOf v_shapeRows v_shapeColumns v_row v_column v_below v_face v_high v_to v_pileSize)
    else (fX9_movesAll_24 N x1 x2 x3 s0 (1 : Int32) v_rowsOf v_columnsOf v_shapeRows v_shapeColumns v_row v_column v_below v_face v_high v_to v_pileSize))

set_option maxHeartbeats 4000000 in
set_option maxRecDepth 100000 in
theorem tX9_movesAll_10 {p : Program} {l : Launch} {e : Env} {s : State} {m : MethodId} {args : Array Value} {below : List Frame} {meth : Method} {c : Code} {D : va_G} {cI cL cS cH : ClassId} {A : Nat → Prop} {d : Nat} {a : Nat → Nat} (hd : 2 ≤ d) (C0 : mm_Cx p s m args meth c RX9 cX9_movesAll 16 none D (mm_T cI cL cS cH) A) (hA : ∀ q, s.heap.size ≤ q → A q) {v_keptMany : Int32} {v_done : Int32} {v_folded : Int32} {v_wronged : Int32} {v_tapeMany : Int32} {v_textMany : Int32} {v_base : Int32} {v_at : Int32} {v_ends : Int32} {v_fault : Int32} {v_opened : Int32} {v_bentMany : Int32} {v_bentWrong : Int32} {v_moreWorn : Int32} {v_planned : Int32} {v_allWrong : Int32} {v_allWorn : Int32} {v_z : Int32} {v_wishedField : Int32} {v_isFound : Bool} {v_bestWrong : Int32} {v_bestWorn : Int32} {v_bestMany : Int32} {v_soughtBy : Int32} {v_sought : Int32} {v_soughtAt : Int32} {v_foundMany : Int32} {v_foundOrder : Int32} {v_isKept : Bool} {v_imageRows : Int32} {v_imageColumns : Int32} {v_imageFolded : Int32} {v_imageWronged : Int32} {v_bodies : Int32} {v_ran : Int32} {v_ownKind : Int32} {v_ownNumber : Int32} {v_limit : List Int32} {v_changeWas : List Int32} {v_changeIs : List Int32} {v_worn : List Int32} {v_lastBend : List Int32} {v_tape : List Int32} {v_text : List Int32} {v_names : List Int32} {v_bends : List Int32} {v_planLine : List Int32} {v_planWay : List Int32} {v_way1 : List Int32} {v_bestWay : List Int32} {v_order1 : List Int32} {v_placeIn : List Int32} {v_bodyKind : List Int32} {v_trace : List Int32} {v_shelf : List Int32} {v_many : List Int32} {v_items : List Int64} {v_carried : List Int64} {w_shapeRows : List Int32} {w_shapeColumns : List Int32} {w_row : List Int32} {w_column : List Int32} {w_below : List Int32} {w_face : List Int32} {w_high : List Int32} {w_to : List Int32} {w_pileSize : List Int32} (N : Nat)  : ∀ (x1 : Int32) (x2 : Int32) (x3 : Int32) (s0 : Int32) (v_rowsOf : Int32) (v_columnsOf : Int32) (v_shapeRows : List Int32) (v_shapeColumns : List Int32) (v_row : List Int32) (v_column : List Int32) (v_below : List Int32) (v_face : List Int32) (v_high : List Int32) (v_to : List Int32) (v_pileSize : List Int32) (H : Heap) (locs : List Loc) (ls : Array Slot), fX9_movesAll_10 N x1 x2 x3 s0 v_rowsOf v_columnsOf v_shapeRows v_shapeColumns v_row v_column v_below v_face v_high v_to v_pileSize = some (w_shapeRows, w_shapeColumns, w_row, w_column, w_below, w_face, w_high, w_to, w_pileSize) → va_P D mm_cl (wd_X9 cI cL cS cH a v_keptMany v_done v_rowsOf v_columnsOf v_folded v_wronged v_tapeMany v_textMany v_base v_at v_ends v_fault v_opened v_bentMany v_bentWrong v_moreWorn v_planned v_allWrong v_allWorn v_z v_wishedField v_isFound v_bestWrong v_bestWorn v_bestMany v_soughtBy v_sought v_soughtAt v_foundMany v_foundOrder v_isKept v_imageRows v_imageColumns v_imageFolded v_imageWronged v_bodies v_ran v_ownKind v_ownNumber v_limit v_changeWas v_changeIs v_shapeRows v_shapeColumns v_row v_column v_below v_face v_worn v_lastBend v_tape v_text v_names v_bends v_high v_to v_pileSize v_planLine v_planWay v_way1 v_bestWay v_order1 v_placeIn v_bodyKind v_trace v_shelf v_many v_items v_carried) H → va_D A (wd_X9 cI cL cS cH a v_keptMany v_done v_rowsOf v_columnsOf v_folded v_wronged v_tapeMany v_textMany v_base v_at v_ends v_fault v_opened v_bentMany v_bentWrong v_moreWorn v_planned v_allWrong v_allWorn v_z v_wishedField v_isFound v_bestWrong v_bestWorn v_bestMany v_soughtBy v_sought v_soughtAt v_foundMany v_foundOrder v_isKept v_imageRows v_imageColumns v_imageFolded v_imageWronged v_bodies v_ran v_ownKind v_ownNumber v_limit v_changeWas v_changeIs v_shapeRows v_shapeColumns v_row v_column v_below v_face v_worn v_lastBend v_tape v_text v_names v_bends v_high v_to v_pileSize v_planLine v_planWay v_way1 v_bestWay v_order1 v_placeIn v_bodyKind v_trace v_shelf v_many v_items v_carried) → va_S A s.heap H locs → lv_has ls 16 [(0, .ref (a 0)), (1, .int x1), (2, .int x2), (3, .int x3)] → W p l e (mm_rr d) s m args below meth c H locs 0 0 (mm_Z below D A (wd_X9 cI cL cS cH a v_keptMany v_done v_rowsOf v_columnsOf v_folded v_wronged v_tapeMany v_textMany v_base v_at v_ends v_fault v_opened v_bentMany v_bentWrong v_moreWorn v_planned v_allWrong v_allWorn v_z v_wishedField v_isFound v_bestWrong v_bestWorn v_bestMany v_soughtBy v_sought v_soughtAt v_foundMany v_foundOrder v_isKept v_imageRows v_imageColumns v_imageFolded v_imageWronged v_bodies v_ran v_ownKind v_ownNumber v_limit v_changeWas v_changeIs w_shapeRows w_shapeColumns w_row w_column w_below w_face v_worn v_lastBend v_tape v_text v_names v_bends w_high w_to w_pileSize v_planLine v_planWay v_way1 v_bestWay v_order1 v_placeIn v_bodyKind v_trace v_shelf v_many v_items v_carried) none args s) (F0 m 10 ls [.int s0]) := by
  obtain ⟨hx, hb, hml, hown, hts, hr, hlocks, hK, hSt⟩ := id C0
  intro x1 x2 x3 s0 v_rowsOf v_columnsOf v_shapeRows v_shapeColumns v_row v_column v_below v_face v_high v_to v_pileSize H locs ls hf hP hD hS hl
  unfold fX9_movesAll_10 at hf
  refine lv_istore (lv' := [(4, .int s0), (0, .ref (a 0)), (1, .int x1), (2, .int x2), (3, .int x3)]) hx hb dX9_movesAll_10 hl (by decide) rfl (fun ls hl => ?_)
  refine lv_iload_n hx hb dX9_movesAll_12 rfl (lv_at hl 4 rfl) ?_
  refine lv_iconst (v := 4) hx hb dX9_movesAll_13 (by decide) ?_
  obtain ⟨h_2, hf⟩ := mm_cks hf
  refine lv_irem hx hb dX9_movesAll_14 (mm_nzs h_2) ?_
  refine lv_iconst (v := 2) hx hb dX9_movesAll_15 (by decide) ?_
  refine lv_icmp_ge (tgt := 23) hx hb dX9_movesAll_16 (by decide) (fun c_3 => ?_) (fun c_3 => ?_)
  · have hf := mm_ip hf c_3
    refine lv_iconst (v := 0) hx hb dX9_movesAll_23 (by decide) ?_
    exact tX9_movesAll_24 hd C0 hA N  _ _ _ _ _ _ _ _ _ _ _ _ _ _ _ _ H locs ls hf hP hD hS (lv_sub hl [1, 2, 3, 4, 0] rfl)
  · have hf := mm_in hf c_3
    refine lv_iconst (v := 1) hx hb dX9_movesAll_19 (by decide) ?_
    refine lv_goto (tgt := 24) hx hb dX9_movesAll_20 (by decide) ?_
    exact tX9_movesAll_24 hd C0 hA N  _ _ _ _ _ _ _ _ _ _ _ _ _ _ _ _ H locs ls hf hP hD hS (lv_sub hl [1, 2, 3, 4, 0] rfl)

def fX9_movesAll (N : Nat) (x1 : Int32) (x2 : Int32) (x3 : Int32) (v_rowsOf : Int32) (v_columnsOf : Int32) (v_shapeRows : List Int32) (v_shapeColumns : List Int32) (v_row : List Int32) (v_column : List Int32) (v_below : List Int32) (v_face : List Int32) (v_high : List Int32) (v_to : List Int32) (v_pileSize : List Int32) : Option (List Int32 × List Int32 × List Int32 × List Int32 × List Int32 × List Int32 × List Int32 × List Int32 × List Int32) :=
    if (4 : Int32) ≤ x3 then
    (fX9_movesAll_10 N x1 x2 x3 (0 : Int32) v_rowsOf v_columnsOf v_shapeRows v_shapeColumns v_row v_column v_below v_face v_high v_to v_pileSize)
    else (fX9_movesAll_10 N x1 x2 x3 (1 : Int32) v_rowsOf v_columnsOf v_shapeRows v_shapeColumns v_row v_column v_below v_face v_high v_to v_pileSize)

set_option maxHeartbeats 4000000 in
set_option maxRecDepth 100000 in
theorem ctX9_movesAll {l : Launch} {D : va_G} {cI cL cS cH : ClassId} {a : Nat → Nat} {x1 : Int32} {x2 : Int32} {x3 : Int32} {v_keptMany : Int32} {v_done : Int32} {v_rowsOf : Int32} {v_columnsOf : Int32} {v_folded : Int32} {v_wronged : Int32} {v_tapeMany : Int32} {v_textMany : Int32} {v_base : Int32} {v_at : Int32} {v_ends : Int32} {v_fault : Int32} {v_opened : Int32} {v_bentMany : Int32} {v_bentWrong : Int32} {v_moreWorn : Int32} {v_planned : Int32} {v_allWrong : Int32} {v_allWorn : Int32} {v_z : Int32} {v_wishedField : Int32} {v_isFound : Bool} {v_bestWrong : Int32} {v_bestWorn : Int32} {v_bestMany : Int32} {v_soughtBy : Int32} {v_sought : Int32} {v_soughtAt : Int32} {v_foundMany : Int32} {v_foundOrder : Int32} {v_isKept : Bool} {v_imageRows : Int32} {v_imageColumns : Int32} {v_imageFolded : Int32} {v_imageWronged : Int32} {v_bodies : Int32} {v_ran : Int32} {v_ownKind : Int32} {v_ownNumber : Int32} {v_limit : List Int32} {v_changeWas : List Int32} {v_changeIs : List Int32} {v_shapeRows : List Int32} {v_shapeColumns : List Int32} {v_row : List Int32} {v_column : List Int32} {v_below : List Int32} {v_face : List Int32} {v_worn : List Int32} {v_lastBend : List Int32} {v_tape : List Int32} {v_text : List Int32} {v_names : List Int32} {v_bends : List Int32} {v_high : List Int32} {v_to : List Int32} {v_pileSize : List Int32} {v_planLine : List Int32} {v_planWay : List Int32} {v_way1 : List Int32} {v_bestWay : List Int32} {v_order1 : List Int32} {v_placeIn : List Int32} {v_bodyKind : List Int32} {v_trace : List Int32} {v_shelf : List Int32} {v_many : List Int32} {v_items : List Int64} {v_carried : List Int64} {w_shapeRows : List Int32} {w_shapeColumns : List Int32} {w_row : List Int32} {w_column : List Int32} {w_below : List Int32} {w_face : List Int32} {w_high : List Int32} {w_to : List Int32} {w_pileSize : List Int32} {N d : Nat} (hd : 2 ≤ d) (hf : fX9_movesAll N x1 x2 x3 v_rowsOf v_columnsOf v_shapeRows v_shapeColumns v_row v_column v_below v_face v_high v_to v_pileSize = some (w_shapeRows, w_shapeColumns, w_row, w_column, w_below, w_face, w_high, w_to, w_pileSize)) : mm_Ct l yX9_movesAll cX9_movesAll 16 none d D (mm_T cI cL cS cH) [.ref (a 0), .int x1, .int x2, .int x3] (wd_X9 cI cL cS cH a v_keptMany v_done v_rowsOf v_columnsOf v_folded v_wronged v_tapeMany v_textMany v_base v_at v_ends v_fault v_opened v_bentMany v_bentWrong v_moreWorn v_planned v_allWrong v_allWorn v_z v_wishedField v_isFound v_bestWrong v_bestWorn v_bestMany v_soughtBy v_sought v_soughtAt v_foundMany v_foundOrder v_isKept v_imageRows v_imageColumns v_imageFolded v_imageWronged v_bodies v_ran v_ownKind v_ownNumber v_limit v_changeWas v_changeIs v_shapeRows v_shapeColumns v_row v_column v_below v_face v_worn v_lastBend v_tape v_text v_names v_bends v_high v_to v_pileSize v_planLine v_planWay v_way1 v_bestWay v_order1 v_placeIn v_bodyKind v_trace v_shelf v_many v_items v_carried) (wd_X9 cI cL cS cH a v_keptMany v_done v_rowsOf v_columnsOf v_folded v_wronged v_tapeMany v_textMany v_base v_at v_ends v_fault v_opened v_bentMany v_bentWrong v_moreWorn v_planned v_allWrong v_allWorn v_z v_wishedField v_isFound v_bestWrong v_bestWorn v_bestMany v_soughtBy v_sought v_soughtAt v_foundMany v_foundOrder v_isKept v_imageRows v_imageColumns v_imageFolded v_imageWronged v_bodies v_ran v_ownKind v_ownNumber v_limit v_changeWas v_changeIs w_shapeRows w_shapeColumns w_row w_column w_below w_face v_worn v_lastBend v_tape v_text v_names v_bends w_high w_to w_pileSize v_planLine v_planWay v_way1 v_bestWay v_order1 v_placeIn v_bodyKind v_trace v_shelf v_many v_items v_carried) none := by
  refine mm_of (by decide) (Nat.le_of_ble_eq_true rfl) ?_
  intro p e s m args below meth c A H locs ls C0 hP hD hA hS hl
  have C0 : mm_Cx p s m args meth c RX9 cX9_movesAll 16 none D (mm_T cI cL cS cH) A := C0
  obtain ⟨hx, hb, hml, hown, hts, hr, hlocks, hK, hSt⟩ := id C0
  have hl : lv_has ls 16 [(0, .ref (a 0)), (1, .int x1), (2, .int x2), (3, .int x3)] := hl
  unfold fX9_movesAll at hf
  refine lv_iload_n hx hb dX9_movesAll_0 rfl (lv_at hl 3 rfl) ?_
  refine lv_iconst (v := 4) hx hb dX9_movesAll_1 (by decide) ?_
  refine lv_icmp_ge (tgt := 9) hx hb dX9_movesAll_2 (by decide) (fun c_1 => ?_) (fun c_1 => ?_)
  · have hf := mm_ip hf c_1
    refine lv_iconst (v := 0) hx hb dX9_movesAll_9 (by decide) ?_
    exact tX9_movesAll_10 hd C0 hA N  _ _ _ _ _ _ _ _ _ _ _ _ _ _ _ H locs ls hf hP hD hS (lv_sub hl [0, 1, 2, 3] rfl)
  · have hf := mm_in hf c_1
    refine lv_iconst (v := 1) hx hb dX9_movesAll_5 (by decide) ?_
    refine lv_goto (tgt := 10) hx hb dX9_movesAll_6 (by decide) ?_
    exact tX9_movesAll_10 hd C0 hA N  _ _ _ _ _ _ _ _ _ _ _ _ _ _ _ H locs ls hf hP hD hS (lv_sub hl [0, 1, 2, 3] rfl)

