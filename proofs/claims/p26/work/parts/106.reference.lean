section
/-! reference: X9_bendOf -/
theorem nb_dX9_bendOf_0 : bls_w cX9_bendOf [(0, [28]), (1, [5]), (2, [108]), (3, [54, 5]), (5, [42]), (6, [28]), (7, [182, 0, 201]), (10, [54, 6]), (12, [21, 4]), (14, [7]), (15, [162, 0, 7]), (18, [4])] := bls_of (by decide +kernel)
theorem dX9_bendOf_0 : decode cX9_bendOf 0 = .ok (.iload_n 2, 1) := op_28 nb_dX9_bendOf_0.1
theorem dX9_bendOf_1 : decode cX9_bendOf 1 = .ok (.iconst 2, 1) := op_5 nb_dX9_bendOf_0.2.1
theorem dX9_bendOf_2 : decode cX9_bendOf 2 = .ok (.idiv, 1) := op_108 nb_dX9_bendOf_0.2.2.1
set_option maxRecDepth 100000 in
theorem dX9_bendOf_3 : decode cX9_bendOf 3 = .ok (.istore 5, 2) := (op_54 nb_dX9_bendOf_0.2.2.2.1).trans rfl
theorem dX9_bendOf_5 : decode cX9_bendOf 5 = .ok (.aload_n 0, 1) := op_42 nb_dX9_bendOf_0.2.2.2.2.1
theorem dX9_bendOf_6 : decode cX9_bendOf 6 = .ok (.iload_n 2, 1) := op_28 nb_dX9_bendOf_0.2.2.2.2.2.1
set_option maxRecDepth 100000 in
theorem dX9_bendOf_7 : decode cX9_bendOf 7 = .ok (.invokevirtual 201, 3) := (op_182 nb_dX9_bendOf_0.2.2.2.2.2.2.1).trans rfl
set_option maxRecDepth 100000 in
theorem dX9_bendOf_10 : decode cX9_bendOf 10 = .ok (.istore 6, 2) := (op_54 nb_dX9_bendOf_0.2.2.2.2.2.2.2.1).trans rfl
set_option maxRecDepth 100000 in
theorem dX9_bendOf_12 : decode cX9_bendOf 12 = .ok (.iload 4, 2) := (op_21 nb_dX9_bendOf_0.2.2.2.2.2.2.2.2.1).trans rfl
theorem dX9_bendOf_14 : decode cX9_bendOf 14 = .ok (.iconst 4, 1) := op_7 nb_dX9_bendOf_0.2.2.2.2.2.2.2.2.2.1
set_option maxRecDepth 100000 in
theorem dX9_bendOf_15 : decode cX9_bendOf 15 = .ok (.if_icmp .ge 7, 3) := (op_162 nb_dX9_bendOf_0.2.2.2.2.2.2.2.2.2.2.1).trans rfl
theorem dX9_bendOf_18 : decode cX9_bendOf 18 = .ok (.iconst 1, 1) := op_4 nb_dX9_bendOf_0.2.2.2.2.2.2.2.2.2.2.2.1
theorem nb_dX9_bendOf_19 : bls_w cX9_bendOf [(19, [167, 0, 4]), (22, [3]), (23, [54, 7]), (25, [42]), (26, [27]), (27, [21, 5]), (29, [21, 7]), (31, [182, 0, 204]), (34, [54, 8]), (36, [42]), (37, [27]), (38, [21, 6])] := bls_of (by decide +kernel)
set_option maxRecDepth 100000 in
theorem dX9_bendOf_19 : decode cX9_bendOf 19 = .ok (.goto 4, 3) := (op_167 nb_dX9_bendOf_19.1).trans rfl
theorem dX9_bendOf_22 : decode cX9_bendOf 22 = .ok (.iconst 0, 1) := op_3 nb_dX9_bendOf_19.2.1
set_option maxRecDepth 100000 in
theorem dX9_bendOf_23 : decode cX9_bendOf 23 = .ok (.istore 7, 2) := (op_54 nb_dX9_bendOf_19.2.2.1).trans rfl
theorem dX9_bendOf_25 : decode cX9_bendOf 25 = .ok (.aload_n 0, 1) := op_42 nb_dX9_bendOf_19.2.2.2.1
theorem dX9_bendOf_26 : decode cX9_bendOf 26 = .ok (.iload_n 1, 1) := op_27 nb_dX9_bendOf_19.2.2.2.2.1
set_option maxRecDepth 100000 in
theorem dX9_bendOf_27 : decode cX9_bendOf 27 = .ok (.iload 5, 2) := (op_21 nb_dX9_bendOf_19.2.2.2.2.2.1).trans rfl
set_option maxRecDepth 100000 in
theorem dX9_bendOf_29 : decode cX9_bendOf 29 = .ok (.iload 7, 2) := (op_21 nb_dX9_bendOf_19.2.2.2.2.2.2.1).trans rfl
set_option maxRecDepth 100000 in
theorem dX9_bendOf_31 : decode cX9_bendOf 31 = .ok (.invokevirtual 204, 3) := (op_182 nb_dX9_bendOf_19.2.2.2.2.2.2.2.1).trans rfl
set_option maxRecDepth 100000 in
theorem dX9_bendOf_34 : decode cX9_bendOf 34 = .ok (.istore 8, 2) := (op_54 nb_dX9_bendOf_19.2.2.2.2.2.2.2.2.1).trans rfl
theorem dX9_bendOf_36 : decode cX9_bendOf 36 = .ok (.aload_n 0, 1) := op_42 nb_dX9_bendOf_19.2.2.2.2.2.2.2.2.2.1
theorem dX9_bendOf_37 : decode cX9_bendOf 37 = .ok (.iload_n 1, 1) := op_27 nb_dX9_bendOf_19.2.2.2.2.2.2.2.2.2.2.1
set_option maxRecDepth 100000 in
theorem dX9_bendOf_38 : decode cX9_bendOf 38 = .ok (.iload 6, 2) := (op_21 nb_dX9_bendOf_19.2.2.2.2.2.2.2.2.2.2.2.1).trans rfl
theorem nb_dX9_bendOf_40 : bls_w cX9_bendOf [(40, [21, 7]), (42, [182, 0, 204]), (45, [54, 9]), (47, [21, 8]), (49, [29]), (50, [4]), (51, [100]), (52, [160, 0, 9]), (55, [21, 9]), (57, [29]), (58, [159, 0, 17]), (61, [21, 8])] := bls_of (by decide +kernel)
set_option maxRecDepth 100000 in
theorem dX9_bendOf_40 : decode cX9_bendOf 40 = .ok (.iload 7, 2) := (op_21 nb_dX9_bendOf_40.1).trans rfl
set_option maxRecDepth 100000 in
theorem dX9_bendOf_42 : decode cX9_bendOf 42 = .ok (.invokevirtual 204, 3) := (op_182 nb_dX9_bendOf_40.2.1).trans rfl
set_option maxRecDepth 100000 in
theorem dX9_bendOf_45 : decode cX9_bendOf 45 = .ok (.istore 9, 2) := (op_54 nb_dX9_bendOf_40.2.2.1).trans rfl
set_option maxRecDepth 100000 in
theorem dX9_bendOf_47 : decode cX9_bendOf 47 = .ok (.iload 8, 2) := (op_21 nb_dX9_bendOf_40.2.2.2.1).trans rfl
theorem dX9_bendOf_49 : decode cX9_bendOf 49 = .ok (.iload_n 3, 1) := op_29 nb_dX9_bendOf_40.2.2.2.2.1
theorem dX9_bendOf_50 : decode cX9_bendOf 50 = .ok (.iconst 1, 1) := op_4 nb_dX9_bendOf_40.2.2.2.2.2.1
theorem dX9_bendOf_51 : decode cX9_bendOf 51 = .ok (.isub, 1) := op_100 nb_dX9_bendOf_40.2.2.2.2.2.2.1
set_option maxRecDepth 100000 in
theorem dX9_bendOf_52 : decode cX9_bendOf 52 = .ok (.if_icmp .ne 9, 3) := (op_160 nb_dX9_bendOf_40.2.2.2.2.2.2.2.1).trans rfl
set_option maxRecDepth 100000 in
theorem dX9_bendOf_55 : decode cX9_bendOf 55 = .ok (.iload 9, 2) := (op_21 nb_dX9_bendOf_40.2.2.2.2.2.2.2.2.1).trans rfl
theorem dX9_bendOf_57 : decode cX9_bendOf 57 = .ok (.iload_n 3, 1) := op_29 nb_dX9_bendOf_40.2.2.2.2.2.2.2.2.2.1
set_option maxRecDepth 100000 in
theorem dX9_bendOf_58 : decode cX9_bendOf 58 = .ok (.if_icmp .eq 17, 3) := (op_159 nb_dX9_bendOf_40.2.2.2.2.2.2.2.2.2.2.1).trans rfl
set_option maxRecDepth 100000 in
theorem dX9_bendOf_61 : decode cX9_bendOf 61 = .ok (.iload 8, 2) := (op_21 nb_dX9_bendOf_40.2.2.2.2.2.2.2.2.2.2.2.1).trans rfl
theorem nb_dX9_bendOf_63 : bls_w cX9_bendOf [(63, [29]), (64, [160, 0, 15]), (67, [21, 9]), (69, [29]), (70, [4]), (71, [100]), (72, [160, 0, 7]), (75, [4]), (76, [167, 0, 4]), (79, [3]), (80, [54, 10]), (82, [21, 10])] := bls_of (by decide +kernel)
theorem dX9_bendOf_63 : decode cX9_bendOf 63 = .ok (.iload_n 3, 1) := op_29 nb_dX9_bendOf_63.1
set_option maxRecDepth 100000 in
theorem dX9_bendOf_64 : decode cX9_bendOf 64 = .ok (.if_icmp .ne 15, 3) := (op_160 nb_dX9_bendOf_63.2.1).trans rfl
set_option maxRecDepth 100000 in
theorem dX9_bendOf_67 : decode cX9_bendOf 67 = .ok (.iload 9, 2) := (op_21 nb_dX9_bendOf_63.2.2.1).trans rfl
theorem dX9_bendOf_69 : decode cX9_bendOf 69 = .ok (.iload_n 3, 1) := op_29 nb_dX9_bendOf_63.2.2.2.1
theorem dX9_bendOf_70 : decode cX9_bendOf 70 = .ok (.iconst 1, 1) := op_4 nb_dX9_bendOf_63.2.2.2.2.1
theorem dX9_bendOf_71 : decode cX9_bendOf 71 = .ok (.isub, 1) := op_100 nb_dX9_bendOf_63.2.2.2.2.2.1
set_option maxRecDepth 100000 in
theorem dX9_bendOf_72 : decode cX9_bendOf 72 = .ok (.if_icmp .ne 7, 3) := (op_160 nb_dX9_bendOf_63.2.2.2.2.2.2.1).trans rfl
theorem dX9_bendOf_75 : decode cX9_bendOf 75 = .ok (.iconst 1, 1) := op_4 nb_dX9_bendOf_63.2.2.2.2.2.2.2.1
set_option maxRecDepth 100000 in
theorem dX9_bendOf_76 : decode cX9_bendOf 76 = .ok (.goto 4, 3) := (op_167 nb_dX9_bendOf_63.2.2.2.2.2.2.2.2.1).trans rfl
theorem dX9_bendOf_79 : decode cX9_bendOf 79 = .ok (.iconst 0, 1) := op_3 nb_dX9_bendOf_63.2.2.2.2.2.2.2.2.2.1
set_option maxRecDepth 100000 in
theorem dX9_bendOf_80 : decode cX9_bendOf 80 = .ok (.istore 10, 2) := (op_54 nb_dX9_bendOf_63.2.2.2.2.2.2.2.2.2.2.1).trans rfl
set_option maxRecDepth 100000 in
theorem dX9_bendOf_82 : decode cX9_bendOf 82 = .ok (.iload 10, 2) := (op_21 nb_dX9_bendOf_63.2.2.2.2.2.2.2.2.2.2.2.1).trans rfl
theorem nb_dX9_bendOf_84 : bls_w cX9_bendOf [(84, [153, 0, 60]), (87, [42]), (88, [27]), (89, [21, 5]), (91, [21, 7]), (93, [154, 0, 7]), (96, [4]), (97, [167, 0, 4]), (100, [3]), (101, [182, 0, 204]), (104, [42]), (105, [27])] := bls_of (by decide +kernel)
set_option maxRecDepth 100000 in
theorem dX9_bendOf_84 : decode cX9_bendOf 84 = .ok (.ifCond .eq 60, 3) := (op_153 nb_dX9_bendOf_84.1).trans rfl
theorem dX9_bendOf_87 : decode cX9_bendOf 87 = .ok (.aload_n 0, 1) := op_42 nb_dX9_bendOf_84.2.1
theorem dX9_bendOf_88 : decode cX9_bendOf 88 = .ok (.iload_n 1, 1) := op_27 nb_dX9_bendOf_84.2.2.1
set_option maxRecDepth 100000 in
theorem dX9_bendOf_89 : decode cX9_bendOf 89 = .ok (.iload 5, 2) := (op_21 nb_dX9_bendOf_84.2.2.2.1).trans rfl
set_option maxRecDepth 100000 in
theorem dX9_bendOf_91 : decode cX9_bendOf 91 = .ok (.iload 7, 2) := (op_21 nb_dX9_bendOf_84.2.2.2.2.1).trans rfl
set_option maxRecDepth 100000 in
theorem dX9_bendOf_93 : decode cX9_bendOf 93 = .ok (.ifCond .ne 7, 3) := (op_154 nb_dX9_bendOf_84.2.2.2.2.2.1).trans rfl
theorem dX9_bendOf_96 : decode cX9_bendOf 96 = .ok (.iconst 1, 1) := op_4 nb_dX9_bendOf_84.2.2.2.2.2.2.1
set_option maxRecDepth 100000 in
theorem dX9_bendOf_97 : decode cX9_bendOf 97 = .ok (.goto 4, 3) := (op_167 nb_dX9_bendOf_84.2.2.2.2.2.2.2.1).trans rfl
theorem dX9_bendOf_100 : decode cX9_bendOf 100 = .ok (.iconst 0, 1) := op_3 nb_dX9_bendOf_84.2.2.2.2.2.2.2.2.1
set_option maxRecDepth 100000 in
theorem dX9_bendOf_101 : decode cX9_bendOf 101 = .ok (.invokevirtual 204, 3) := (op_182 nb_dX9_bendOf_84.2.2.2.2.2.2.2.2.2.1).trans rfl
theorem dX9_bendOf_104 : decode cX9_bendOf 104 = .ok (.aload_n 0, 1) := op_42 nb_dX9_bendOf_84.2.2.2.2.2.2.2.2.2.2.1
theorem dX9_bendOf_105 : decode cX9_bendOf 105 = .ok (.iload_n 1, 1) := op_27 nb_dX9_bendOf_84.2.2.2.2.2.2.2.2.2.2.2.1
theorem nb_dX9_bendOf_106 : bls_w cX9_bendOf [(106, [21, 6]), (108, [21, 7]), (110, [154, 0, 7]), (113, [4]), (114, [167, 0, 4]), (117, [3]), (118, [182, 0, 204]), (121, [160, 0, 23]), (124, [42]), (125, [180, 0, 37]), (128, [16, 64]), (130, [27])] := bls_of (by decide +kernel)
set_option maxRecDepth 100000 in
theorem dX9_bendOf_106 : decode cX9_bendOf 106 = .ok (.iload 6, 2) := (op_21 nb_dX9_bendOf_106.1).trans rfl
set_option maxRecDepth 100000 in
theorem dX9_bendOf_108 : decode cX9_bendOf 108 = .ok (.iload 7, 2) := (op_21 nb_dX9_bendOf_106.2.1).trans rfl
set_option maxRecDepth 100000 in
theorem dX9_bendOf_110 : decode cX9_bendOf 110 = .ok (.ifCond .ne 7, 3) := (op_154 nb_dX9_bendOf_106.2.2.1).trans rfl
theorem dX9_bendOf_113 : decode cX9_bendOf 113 = .ok (.iconst 1, 1) := op_4 nb_dX9_bendOf_106.2.2.2.1
set_option maxRecDepth 100000 in
theorem dX9_bendOf_114 : decode cX9_bendOf 114 = .ok (.goto 4, 3) := (op_167 nb_dX9_bendOf_106.2.2.2.2.1).trans rfl
theorem dX9_bendOf_117 : decode cX9_bendOf 117 = .ok (.iconst 0, 1) := op_3 nb_dX9_bendOf_106.2.2.2.2.2.1
set_option maxRecDepth 100000 in
theorem dX9_bendOf_118 : decode cX9_bendOf 118 = .ok (.invokevirtual 204, 3) := (op_182 nb_dX9_bendOf_106.2.2.2.2.2.2.1).trans rfl
set_option maxRecDepth 100000 in
theorem dX9_bendOf_121 : decode cX9_bendOf 121 = .ok (.if_icmp .ne 23, 3) := (op_160 nb_dX9_bendOf_106.2.2.2.2.2.2.2.1).trans rfl
theorem dX9_bendOf_124 : decode cX9_bendOf 124 = .ok (.aload_n 0, 1) := op_42 nb_dX9_bendOf_106.2.2.2.2.2.2.2.2.1
set_option maxRecDepth 100000 in
theorem dX9_bendOf_125 : decode cX9_bendOf 125 = .ok (.getfield 37, 3) := (op_180 nb_dX9_bendOf_106.2.2.2.2.2.2.2.2.2.1).trans rfl
set_option maxRecDepth 100000 in
theorem dX9_bendOf_128 : decode cX9_bendOf 128 = .ok (.bipush 64, 2) := (op_16 nb_dX9_bendOf_106.2.2.2.2.2.2.2.2.2.2.1).trans rfl
theorem dX9_bendOf_130 : decode cX9_bendOf 130 = .ok (.iload_n 1, 1) := op_27 nb_dX9_bendOf_106.2.2.2.2.2.2.2.2.2.2.2.1
theorem nb_dX9_bendOf_131 : bls_w cX9_bendOf [(131, [104]), (132, [28]), (133, [96]), (134, [46]), (135, [42]), (136, [180, 0, 7]), (139, [3]), (140, [46]), (141, [161, 0, 5]), (144, [3]), (145, [172]), (146, [21, 4])] := bls_of (by decide +kernel)
theorem dX9_bendOf_131 : decode cX9_bendOf 131 = .ok (.imul, 1) := op_104 nb_dX9_bendOf_131.1
theorem dX9_bendOf_132 : decode cX9_bendOf 132 = .ok (.iload_n 2, 1) := op_28 nb_dX9_bendOf_131.2.1
theorem dX9_bendOf_133 : decode cX9_bendOf 133 = .ok (.iadd, 1) := op_96 nb_dX9_bendOf_131.2.2.1
theorem dX9_bendOf_134 : decode cX9_bendOf 134 = .ok (.iaload, 1) := op_46 nb_dX9_bendOf_131.2.2.2.1
theorem dX9_bendOf_135 : decode cX9_bendOf 135 = .ok (.aload_n 0, 1) := op_42 nb_dX9_bendOf_131.2.2.2.2.1
set_option maxRecDepth 100000 in
theorem dX9_bendOf_136 : decode cX9_bendOf 136 = .ok (.getfield 7, 3) := (op_180 nb_dX9_bendOf_131.2.2.2.2.2.1).trans rfl
theorem dX9_bendOf_139 : decode cX9_bendOf 139 = .ok (.iconst 0, 1) := op_3 nb_dX9_bendOf_131.2.2.2.2.2.2.1
theorem dX9_bendOf_140 : decode cX9_bendOf 140 = .ok (.iaload, 1) := op_46 nb_dX9_bendOf_131.2.2.2.2.2.2.2.1
set_option maxRecDepth 100000 in
theorem dX9_bendOf_141 : decode cX9_bendOf 141 = .ok (.if_icmp .lt 5, 3) := (op_161 nb_dX9_bendOf_131.2.2.2.2.2.2.2.2.1).trans rfl
theorem dX9_bendOf_144 : decode cX9_bendOf 144 = .ok (.iconst 0, 1) := op_3 nb_dX9_bendOf_131.2.2.2.2.2.2.2.2.2.1
theorem dX9_bendOf_145 : decode cX9_bendOf 145 = .ok (.ireturn, 1) := op_172 nb_dX9_bendOf_131.2.2.2.2.2.2.2.2.2.2.1
set_option maxRecDepth 100000 in
theorem dX9_bendOf_146 : decode cX9_bendOf 146 = .ok (.iload 4, 2) := (op_21 nb_dX9_bendOf_131.2.2.2.2.2.2.2.2.2.2.2.1).trans rfl
theorem nb_dX9_bendOf_148 : bls_w cX9_bendOf [(148, [7]), (149, [112]), (150, [5]), (151, [162, 0, 7]), (154, [4]), (155, [167, 0, 4]), (158, [3]), (159, [54, 11]), (161, [21, 8]), (163, [29]), (164, [162, 0, 7]), (167, [4])] := bls_of (by decide +kernel)
theorem dX9_bendOf_148 : decode cX9_bendOf 148 = .ok (.iconst 4, 1) := op_7 nb_dX9_bendOf_148.1
theorem dX9_bendOf_149 : decode cX9_bendOf 149 = .ok (.irem, 1) := op_112 nb_dX9_bendOf_148.2.1
theorem dX9_bendOf_150 : decode cX9_bendOf 150 = .ok (.iconst 2, 1) := op_5 nb_dX9_bendOf_148.2.2.1
set_option maxRecDepth 100000 in
theorem dX9_bendOf_151 : decode cX9_bendOf 151 = .ok (.if_icmp .ge 7, 3) := (op_162 nb_dX9_bendOf_148.2.2.2.1).trans rfl
theorem dX9_bendOf_154 : decode cX9_bendOf 154 = .ok (.iconst 1, 1) := op_4 nb_dX9_bendOf_148.2.2.2.2.1
set_option maxRecDepth 100000 in
theorem dX9_bendOf_155 : decode cX9_bendOf 155 = .ok (.goto 4, 3) := (op_167 nb_dX9_bendOf_148.2.2.2.2.2.1).trans rfl
theorem dX9_bendOf_158 : decode cX9_bendOf 158 = .ok (.iconst 0, 1) := op_3 nb_dX9_bendOf_148.2.2.2.2.2.2.1
set_option maxRecDepth 100000 in
theorem dX9_bendOf_159 : decode cX9_bendOf 159 = .ok (.istore 11, 2) := (op_54 nb_dX9_bendOf_148.2.2.2.2.2.2.2.1).trans rfl
set_option maxRecDepth 100000 in
theorem dX9_bendOf_161 : decode cX9_bendOf 161 = .ok (.iload 8, 2) := (op_21 nb_dX9_bendOf_148.2.2.2.2.2.2.2.2.1).trans rfl
theorem dX9_bendOf_163 : decode cX9_bendOf 163 = .ok (.iload_n 3, 1) := op_29 nb_dX9_bendOf_148.2.2.2.2.2.2.2.2.2.1
set_option maxRecDepth 100000 in
theorem dX9_bendOf_164 : decode cX9_bendOf 164 = .ok (.if_icmp .ge 7, 3) := (op_162 nb_dX9_bendOf_148.2.2.2.2.2.2.2.2.2.2.1).trans rfl
theorem dX9_bendOf_167 : decode cX9_bendOf 167 = .ok (.iconst 1, 1) := op_4 nb_dX9_bendOf_148.2.2.2.2.2.2.2.2.2.2.2.1
theorem nb_dX9_bendOf_168 : bls_w cX9_bendOf [(168, [167, 0, 4]), (171, [3]), (172, [21, 11]), (174, [160, 0, 8]), (177, [21, 5]), (179, [167, 0, 5]), (182, [21, 6]), (184, [54, 12]), (186, [21, 4]), (188, [5]), (189, [112]), (190, [154, 0, 7])] := bls_of (by decide +kernel)
set_option maxRecDepth 100000 in
theorem dX9_bendOf_168 : decode cX9_bendOf 168 = .ok (.goto 4, 3) := (op_167 nb_dX9_bendOf_168.1).trans rfl
theorem dX9_bendOf_171 : decode cX9_bendOf 171 = .ok (.iconst 0, 1) := op_3 nb_dX9_bendOf_168.2.1
set_option maxRecDepth 100000 in
theorem dX9_bendOf_172 : decode cX9_bendOf 172 = .ok (.iload 11, 2) := (op_21 nb_dX9_bendOf_168.2.2.1).trans rfl
set_option maxRecDepth 100000 in
theorem dX9_bendOf_174 : decode cX9_bendOf 174 = .ok (.if_icmp .ne 8, 3) := (op_160 nb_dX9_bendOf_168.2.2.2.1).trans rfl
set_option maxRecDepth 100000 in
theorem dX9_bendOf_177 : decode cX9_bendOf 177 = .ok (.iload 5, 2) := (op_21 nb_dX9_bendOf_168.2.2.2.2.1).trans rfl
set_option maxRecDepth 100000 in
theorem dX9_bendOf_179 : decode cX9_bendOf 179 = .ok (.goto 5, 3) := (op_167 nb_dX9_bendOf_168.2.2.2.2.2.1).trans rfl
set_option maxRecDepth 100000 in
theorem dX9_bendOf_182 : decode cX9_bendOf 182 = .ok (.iload 6, 2) := (op_21 nb_dX9_bendOf_168.2.2.2.2.2.2.1).trans rfl
set_option maxRecDepth 100000 in
theorem dX9_bendOf_184 : decode cX9_bendOf 184 = .ok (.istore 12, 2) := (op_54 nb_dX9_bendOf_168.2.2.2.2.2.2.2.1).trans rfl
set_option maxRecDepth 100000 in
theorem dX9_bendOf_186 : decode cX9_bendOf 186 = .ok (.iload 4, 2) := (op_21 nb_dX9_bendOf_168.2.2.2.2.2.2.2.2.1).trans rfl
theorem dX9_bendOf_188 : decode cX9_bendOf 188 = .ok (.iconst 2, 1) := op_5 nb_dX9_bendOf_168.2.2.2.2.2.2.2.2.2.1
theorem dX9_bendOf_189 : decode cX9_bendOf 189 = .ok (.irem, 1) := op_112 nb_dX9_bendOf_168.2.2.2.2.2.2.2.2.2.2.1
set_option maxRecDepth 100000 in
theorem dX9_bendOf_190 : decode cX9_bendOf 190 = .ok (.ifCond .ne 7, 3) := (op_154 nb_dX9_bendOf_168.2.2.2.2.2.2.2.2.2.2.2.1).trans rfl
theorem nb_dX9_bendOf_193 : bls_w cX9_bendOf [(193, [4]), (194, [167, 0, 4]), (197, [3]), (198, [54, 13]), (200, [42]), (201, [180, 0, 34]), (204, [16, 32]), (206, [27]), (207, [104]), (208, [21, 12]), (210, [96]), (211, [46])] := bls_of (by decide +kernel)
theorem dX9_bendOf_193 : decode cX9_bendOf 193 = .ok (.iconst 1, 1) := op_4 nb_dX9_bendOf_193.1
set_option maxRecDepth 100000 in
theorem dX9_bendOf_194 : decode cX9_bendOf 194 = .ok (.goto 4, 3) := (op_167 nb_dX9_bendOf_193.2.1).trans rfl
theorem dX9_bendOf_197 : decode cX9_bendOf 197 = .ok (.iconst 0, 1) := op_3 nb_dX9_bendOf_193.2.2.1
set_option maxRecDepth 100000 in
theorem dX9_bendOf_198 : decode cX9_bendOf 198 = .ok (.istore 13, 2) := (op_54 nb_dX9_bendOf_193.2.2.2.1).trans rfl
theorem dX9_bendOf_200 : decode cX9_bendOf 200 = .ok (.aload_n 0, 1) := op_42 nb_dX9_bendOf_193.2.2.2.2.1
set_option maxRecDepth 100000 in
theorem dX9_bendOf_201 : decode cX9_bendOf 201 = .ok (.getfield 34, 3) := (op_180 nb_dX9_bendOf_193.2.2.2.2.2.1).trans rfl
set_option maxRecDepth 100000 in
theorem dX9_bendOf_204 : decode cX9_bendOf 204 = .ok (.bipush 32, 2) := (op_16 nb_dX9_bendOf_193.2.2.2.2.2.2.1).trans rfl
theorem dX9_bendOf_206 : decode cX9_bendOf 206 = .ok (.iload_n 1, 1) := op_27 nb_dX9_bendOf_193.2.2.2.2.2.2.2.1
theorem dX9_bendOf_207 : decode cX9_bendOf 207 = .ok (.imul, 1) := op_104 nb_dX9_bendOf_193.2.2.2.2.2.2.2.2.1
set_option maxRecDepth 100000 in
theorem dX9_bendOf_208 : decode cX9_bendOf 208 = .ok (.iload 12, 2) := (op_21 nb_dX9_bendOf_193.2.2.2.2.2.2.2.2.2.1).trans rfl
theorem dX9_bendOf_210 : decode cX9_bendOf 210 = .ok (.iadd, 1) := op_96 nb_dX9_bendOf_193.2.2.2.2.2.2.2.2.2.2.1
theorem dX9_bendOf_211 : decode cX9_bendOf 211 = .ok (.iaload, 1) := op_46 nb_dX9_bendOf_193.2.2.2.2.2.2.2.2.2.2.2.1
theorem nb_dX9_bendOf_212 : bls_w cX9_bendOf [(212, [154, 0, 7]), (215, [4]), (216, [167, 0, 4]), (219, [3]), (220, [21, 13]), (222, [160, 0, 7]), (225, [4]), (226, [167, 0, 4]), (229, [5]), (230, [172])] := bls_of (by decide +kernel)
set_option maxRecDepth 100000 in
theorem dX9_bendOf_212 : decode cX9_bendOf 212 = .ok (.ifCond .ne 7, 3) := (op_154 nb_dX9_bendOf_212.1).trans rfl
theorem dX9_bendOf_215 : decode cX9_bendOf 215 = .ok (.iconst 1, 1) := op_4 nb_dX9_bendOf_212.2.1
set_option maxRecDepth 100000 in
theorem dX9_bendOf_216 : decode cX9_bendOf 216 = .ok (.goto 4, 3) := (op_167 nb_dX9_bendOf_212.2.2.1).trans rfl
theorem dX9_bendOf_219 : decode cX9_bendOf 219 = .ok (.iconst 0, 1) := op_3 nb_dX9_bendOf_212.2.2.2.1
set_option maxRecDepth 100000 in
theorem dX9_bendOf_220 : decode cX9_bendOf 220 = .ok (.iload 13, 2) := (op_21 nb_dX9_bendOf_212.2.2.2.2.1).trans rfl
set_option maxRecDepth 100000 in
theorem dX9_bendOf_222 : decode cX9_bendOf 222 = .ok (.if_icmp .ne 7, 3) := (op_160 nb_dX9_bendOf_212.2.2.2.2.2.1).trans rfl
theorem dX9_bendOf_225 : decode cX9_bendOf 225 = .ok (.iconst 1, 1) := op_4 nb_dX9_bendOf_212.2.2.2.2.2.2.1
set_option maxRecDepth 100000 in
theorem dX9_bendOf_226 : decode cX9_bendOf 226 = .ok (.goto 4, 3) := (op_167 nb_dX9_bendOf_212.2.2.2.2.2.2.2.1).trans rfl
theorem dX9_bendOf_229 : decode cX9_bendOf 229 = .ok (.iconst 2, 1) := op_5 nb_dX9_bendOf_212.2.2.2.2.2.2.2.2.1
theorem dX9_bendOf_230 : decode cX9_bendOf 230 = .ok (.ireturn, 1) := op_172 nb_dX9_bendOf_212.2.2.2.2.2.2.2.2.2.1
def fX9_bendOf_220 (N : Nat)  (x13 : Int32) (s0 : Int32) (v_columnsOf : Int32) (v_limit : List Int32) (v_row : List Int32) (v_column : List Int32) (v_face : List Int32) (v_worn : List Int32) : Option (Int32) :=
    if s0 = x13 then
    (some ((1 : Int32)))
    else (some ((2 : Int32)))

set_option maxHeartbeats 4000000 in
set_option maxRecDepth 100000 in
theorem tX9_bendOf_220 {p : Program} {l : Launch} {e : Env} {s : State} {m : MethodId} {args : Array Value} {below : List Frame} {meth : Method} {c : Code} {D : va_G} {cI cL cS cH : ClassId} {A : Nat → Prop} {d : Nat} {a : Nat → Nat} (hd : 2 ≤ d) (C0 : mm_Cx p s m args meth c RX9 cX9_bendOf 14 (some .int) D (mm_T cI cL cS cH) A) (hA : ∀ q, s.heap.size ≤ q → A q) {v_keptMany : Int32} {v_done : Int32} {v_rowsOf : Int32} {v_folded : Int32} {v_wronged : Int32} {v_tapeMany : Int32} {v_textMany : Int32} {v_base : Int32} {v_at : Int32} {v_ends : Int32} {v_fault : Int32} {v_opened : Int32} {v_bentMany : Int32} {v_bentWrong : Int32} {v_moreWorn : Int32} {v_planned : Int32} {v_allWrong : Int32} {v_allWorn : Int32} {v_z : Int32} {v_wishedField : Int32} {v_isFound : Bool} {v_bestWrong : Int32} {v_bestWorn : Int32} {v_bestMany : Int32} {v_soughtBy : Int32} {v_sought : Int32} {v_soughtAt : Int32} {v_foundMany : Int32} {v_foundOrder : Int32} {v_isKept : Bool} {v_imageRows : Int32} {v_imageColumns : Int32} {v_imageFolded : Int32} {v_imageWronged : Int32} {v_bodies : Int32} {v_ran : Int32} {v_ownKind : Int32} {v_ownNumber : Int32} {v_changeWas : List Int32} {v_changeIs : List Int32} {v_shapeRows : List Int32} {v_shapeColumns : List Int32} {v_below : List Int32} {v_lastBend : List Int32} {v_tape : List Int32} {v_text : List Int32} {v_names : List Int32} {v_bends : List Int32} {v_high : List Int32} {v_to : List Int32} {v_pileSize : List Int32} {v_planLine : List Int32} {v_planWay : List Int32} {v_way1 : List Int32} {v_bestWay : List Int32} {v_order1 : List Int32} {v_placeIn : List Int32} {v_bodyKind : List Int32} {v_trace : List Int32} {v_shelf : List Int32} {v_many : List Int32} {v_items : List Int64} {v_carried : List Int64} {r : Int32} (N : Nat)  : ∀ (x13 : Int32) (s0 : Int32) (v_columnsOf : Int32) (v_limit : List Int32) (v_row : List Int32) (v_column : List Int32) (v_face : List Int32) (v_worn : List Int32) (H : Heap) (locs : List Loc) (ls : Array Slot), fX9_bendOf_220 N x13 s0 v_columnsOf v_limit v_row v_column v_face v_worn = some r → va_P D mm_cl (wd_X9 cI cL cS cH a v_keptMany v_done v_rowsOf v_columnsOf v_folded v_wronged v_tapeMany v_textMany v_base v_at v_ends v_fault v_opened v_bentMany v_bentWrong v_moreWorn v_planned v_allWrong v_allWorn v_z v_wishedField v_isFound v_bestWrong v_bestWorn v_bestMany v_soughtBy v_sought v_soughtAt v_foundMany v_foundOrder v_isKept v_imageRows v_imageColumns v_imageFolded v_imageWronged v_bodies v_ran v_ownKind v_ownNumber v_limit v_changeWas v_changeIs v_shapeRows v_shapeColumns v_row v_column v_below v_face v_worn v_lastBend v_tape v_text v_names v_bends v_high v_to v_pileSize v_planLine v_planWay v_way1 v_bestWay v_order1 v_placeIn v_bodyKind v_trace v_shelf v_many v_items v_carried) H → va_D A (wd_X9 cI cL cS cH a v_keptMany v_done v_rowsOf v_columnsOf v_folded v_wronged v_tapeMany v_textMany v_base v_at v_ends v_fault v_opened v_bentMany v_bentWrong v_moreWorn v_planned v_allWrong v_allWorn v_z v_wishedField v_isFound v_bestWrong v_bestWorn v_bestMany v_soughtBy v_sought v_soughtAt v_foundMany v_foundOrder v_isKept v_imageRows v_imageColumns v_imageFolded v_imageWronged v_bodies v_ran v_ownKind v_ownNumber v_limit v_changeWas v_changeIs v_shapeRows v_shapeColumns v_row v_column v_below v_face v_worn v_lastBend v_tape v_text v_names v_bends v_high v_to v_pileSize v_planLine v_planWay v_way1 v_bestWay v_order1 v_placeIn v_bodyKind v_trace v_shelf v_many v_items v_carried) → va_S A s.heap H locs → lv_has ls 14 [(13, .int x13)] → W p l e (mm_rr d) s m args below meth c H locs 0 0 (mm_Z below D A (wd_X9 cI cL cS cH a v_keptMany v_done v_rowsOf v_columnsOf v_folded v_wronged v_tapeMany v_textMany v_base v_at v_ends v_fault v_opened v_bentMany v_bentWrong v_moreWorn v_planned v_allWrong v_allWorn v_z v_wishedField v_isFound v_bestWrong v_bestWorn v_bestMany v_soughtBy v_sought v_soughtAt v_foundMany v_foundOrder v_isKept v_imageRows v_imageColumns v_imageFolded v_imageWronged v_bodies v_ran v_ownKind v_ownNumber v_limit v_changeWas v_changeIs v_shapeRows v_shapeColumns v_row v_column v_below v_face v_worn v_lastBend v_tape v_text v_names v_bends v_high v_to v_pileSize v_planLine v_planWay v_way1 v_bestWay v_order1 v_placeIn v_bodyKind v_trace v_shelf v_many v_items v_carried) (some (.int r)) args s) (F0 m 220 ls [.int s0]) := by
  obtain ⟨hx, hb, hml, hown, hts, hr, hlocks, hK, hSt⟩ := id C0
  intro x13 s0 v_columnsOf v_limit v_row v_column v_face v_worn H locs ls hf hP hD hS hl
  unfold fX9_bendOf_220 at hf
  refine lv_iload hx hb dX9_bendOf_220 (lv_at hl 0 rfl) ?_
  refine lv_icmp_ne (tgt := 229) hx hb dX9_bendOf_222 (by decide) (fun c_31 => ?_) (fun c_31 => ?_)
  · have hf := mm_in hf c_31
    refine lv_iconst (v := 2) hx hb dX9_bendOf_229 (by decide) ?_
    obtain rfl := mm_inj1 hf
    exact mm_iret C0 hP hD hS dX9_bendOf_230
  · have hf := mm_ip hf c_31
    refine lv_iconst (v := 1) hx hb dX9_bendOf_225 (by decide) ?_
    refine lv_goto (tgt := 230) hx hb dX9_bendOf_226 (by decide) ?_
    obtain rfl := mm_inj1 hf
    exact mm_iret C0 hP hD hS dX9_bendOf_230

def fX9_bendOf_198 (N : Nat)  (x1 : Int32) (x12 : Int32) (s0 : Int32) (v_columnsOf : Int32) (v_limit : List Int32) (v_row : List Int32) (v_column : List Int32) (v_face : List Int32) (v_worn : List Int32) : Option (Int32) :=
    mm_ck (mm_inb (((32 : Int32) * x1) + x12) v_face.length) (if (mm_ig v_face (((32 : Int32) * x1) + x12)) = 0 then
    (fX9_bendOf_220 N s0 (1 : Int32) v_columnsOf v_limit v_row v_column v_face v_worn)
    else (fX9_bendOf_220 N s0 (0 : Int32) v_columnsOf v_limit v_row v_column v_face v_worn))

set_option maxHeartbeats 4000000 in
set_option maxRecDepth 100000 in
theorem tX9_bendOf_198 {p : Program} {l : Launch} {e : Env} {s : State} {m : MethodId} {args : Array Value} {below : List Frame} {meth : Method} {c : Code} {D : va_G} {cI cL cS cH : ClassId} {A : Nat → Prop} {d : Nat} {a : Nat → Nat} (hd : 2 ≤ d) (C0 : mm_Cx p s m args meth c RX9 cX9_bendOf 14 (some .int) D (mm_T cI cL cS cH) A) (hA : ∀ q, s.heap.size ≤ q → A q) {v_keptMany : Int32} {v_done : Int32} {v_rowsOf : Int32} {v_folded : Int32} {v_wronged : Int32} {v_tapeMany : Int32} {v_textMany : Int32} {v_base : Int32} {v_at : Int32} {v_ends : Int32} {v_fault : Int32} {v_opened : Int32} {v_bentMany : Int32} {v_bentWrong : Int32} {v_moreWorn : Int32} {v_planned : Int32} {v_allWrong : Int32} {v_allWorn : Int32} {v_z : Int32} {v_wishedField : Int32} {v_isFound : Bool} {v_bestWrong : Int32} {v_bestWorn : Int32} {v_bestMany : Int32} {v_soughtBy : Int32} {v_sought : Int32} {v_soughtAt : Int32} {v_foundMany : Int32} {v_foundOrder : Int32} {v_isKept : Bool} {v_imageRows : Int32} {v_imageColumns : Int32} {v_imageFolded : Int32} {v_imageWronged : Int32} {v_bodies : Int32} {v_ran : Int32} {v_ownKind : Int32} {v_ownNumber : Int32} {v_changeWas : List Int32} {v_changeIs : List Int32} {v_shapeRows : List Int32} {v_shapeColumns : List Int32} {v_below : List Int32} {v_lastBend : List Int32} {v_tape : List Int32} {v_text : List Int32} {v_names : List Int32} {v_bends : List Int32} {v_high : List Int32} {v_to : List Int32} {v_pileSize : List Int32} {v_planLine : List Int32} {v_planWay : List Int32} {v_way1 : List Int32} {v_bestWay : List Int32} {v_order1 : List Int32} {v_placeIn : List Int32} {v_bodyKind : List Int32} {v_trace : List Int32} {v_shelf : List Int32} {v_many : List Int32} {v_items : List Int64} {v_carried : List Int64} {r : Int32} (N : Nat)  : ∀ (x1 : Int32) (x12 : Int32) (s0 : Int32) (v_columnsOf : Int32) (v_limit : List Int32) (v_row : List Int32) (v_column : List Int32) (v_face : List Int32) (v_worn : List Int32) (H : Heap) (locs : List Loc) (ls : Array Slot), fX9_bendOf_198 N x1 x12 s0 v_columnsOf v_limit v_row v_column v_face v_worn = some r → va_P D mm_cl (wd_X9 cI cL cS cH a v_keptMany v_done v_rowsOf v_columnsOf v_folded v_wronged v_tapeMany v_textMany v_base v_at v_ends v_fault v_opened v_bentMany v_bentWrong v_moreWorn v_planned v_allWrong v_allWorn v_z v_wishedField v_isFound v_bestWrong v_bestWorn v_bestMany v_soughtBy v_sought v_soughtAt v_foundMany v_foundOrder v_isKept v_imageRows v_imageColumns v_imageFolded v_imageWronged v_bodies v_ran v_ownKind v_ownNumber v_limit v_changeWas v_changeIs v_shapeRows v_shapeColumns v_row v_column v_below v_face v_worn v_lastBend v_tape v_text v_names v_bends v_high v_to v_pileSize v_planLine v_planWay v_way1 v_bestWay v_order1 v_placeIn v_bodyKind v_trace v_shelf v_many v_items v_carried) H → va_D A (wd_X9 cI cL cS cH a v_keptMany v_done v_rowsOf v_columnsOf v_folded v_wronged v_tapeMany v_textMany v_base v_at v_ends v_fault v_opened v_bentMany v_bentWrong v_moreWorn v_planned v_allWrong v_allWorn v_z v_wishedField v_isFound v_bestWrong v_bestWorn v_bestMany v_soughtBy v_sought v_soughtAt v_foundMany v_foundOrder v_isKept v_imageRows v_imageColumns v_imageFolded v_imageWronged v_bodies v_ran v_ownKind v_ownNumber v_limit v_changeWas v_changeIs v_shapeRows v_shapeColumns v_row v_column v_below v_face v_worn v_lastBend v_tape v_text v_names v_bends v_high v_to v_pileSize v_planLine v_planWay v_way1 v_bestWay v_order1 v_placeIn v_bodyKind v_trace v_shelf v_many v_items v_carried) → va_S A s.heap H locs → lv_has ls 14 [(0, .ref (a 0)), (1, .int x1), (12, .int x12)] → W p l e (mm_rr d) s m args below meth c H locs 0 0 (mm_Z below D A (wd_X9 cI cL cS cH a v_keptMany v_done v_rowsOf v_columnsOf v_folded v_wronged v_tapeMany v_textMany v_base v_at v_ends v_fault v_opened v_bentMany v_bentWrong v_moreWorn v_planned v_allWrong v_allWorn v_z v_wishedField v_isFound v_bestWrong v_bestWorn v_bestMany v_soughtBy v_sought v_soughtAt v_foundMany v_foundOrder v_isKept v_imageRows v_imageColumns v_imageFolded v_imageWronged v_bodies v_ran v_ownKind v_ownNumber v_limit v_changeWas v_changeIs v_shapeRows v_shapeColumns v_row v_column v_below v_face v_worn v_lastBend v_tape v_text v_names v_bends v_high v_to v_pileSize v_planLine v_planWay v_way1 v_bestWay v_order1 v_placeIn v_bodyKind v_trace v_shelf v_many v_items v_carried) (some (.int r)) args s) (F0 m 198 ls [.int s0]) := by
  obtain ⟨hx, hb, hml, hown, hts, hr, hlocks, hK, hSt⟩ := id C0
  intro x1 x12 s0 v_columnsOf v_limit v_row v_column v_face v_worn H locs ls hf hP hD hS hl
  unfold fX9_bendOf_198 at hf
  refine lv_istore (lv' := [(13, .int s0), (0, .ref (a 0)), (1, .int x1), (12, .int x12)]) hx hb dX9_bendOf_198 hl (by decide) rfl (fun ls hl => ?_)
  refine lv_aload_n hx hb dX9_bendOf_200 rfl (lv_at hl 1 rfl) ?_
  refine mm_get C0 hP iw_X9 0 rfl rfl 12 (by decide) fl_X9_34 rfl dX9_bendOf_201 ?_
  refine lv_bipush (v := 32) hx hb dX9_bendOf_204 (by decide) ?_
  refine lv_iload_n hx hb dX9_bendOf_206 rfl (lv_at hl 2 rfl) ?_
  refine lv_imul hx hb dX9_bendOf_207 ?_
  refine lv_iload hx hb dX9_bendOf_208 (lv_at hl 3 rfl) ?_
  refine lv_iadd hx hb dX9_bendOf_210 ?_
  obtain ⟨h_29, hf⟩ := mm_cks hf
  refine mm_iald C0 hP 9 rfl h_29 dX9_bendOf_211 ?_
  refine lv_if_ne (tgt := 219) hx hb dX9_bendOf_212 (by decide) (fun c_30 => ?_) (fun c_30 => ?_)
  · have hf := mm_in hf c_30
    refine lv_iconst (v := 0) hx hb dX9_bendOf_219 (by decide) ?_
    exact tX9_bendOf_220 hd C0 hA N  _ _ _ _ _ _ _ _ H locs ls hf hP hD hS (lv_sub hl [0] rfl)
  · have hf := mm_ip hf c_30
    refine lv_iconst (v := 1) hx hb dX9_bendOf_215 (by decide) ?_
    refine lv_goto (tgt := 220) hx hb dX9_bendOf_216 (by decide) ?_
    exact tX9_bendOf_220 hd C0 hA N  _ _ _ _ _ _ _ _ H locs ls hf hP hD hS (lv_sub hl [0] rfl)

def fX9_bendOf_184 (N : Nat)  (x1 : Int32) (x4 : Int32) (s0 : Int32) (v_columnsOf : Int32) (v_limit : List Int32) (v_row : List Int32) (v_column : List Int32) (v_face : List Int32) (v_worn : List Int32) : Option (Int32) :=
    mm_ck (mm_nz (2 : Int32)) (if (mm_rem x4 (2 : Int32)) = 0 then
    (fX9_bendOf_198 N x1 s0 (1 : Int32) v_columnsOf v_limit v_row v_column v_face v_worn)
    else (fX9_bendOf_198 N x1 s0 (0 : Int32) v_columnsOf v_limit v_row v_column v_face v_worn))

set_option maxHeartbeats 4000000 in
set_option maxRecDepth 100000 in
theorem tX9_bendOf_184 {p : Program} {l : Launch} {e : Env} {s : State} {m : MethodId} {args : Array Value} {below : List Frame} {meth : Method} {c : Code} {D : va_G} {cI cL cS cH : ClassId} {A : Nat → Prop} {d : Nat} {a : Nat → Nat} (hd : 2 ≤ d) (C0 : mm_Cx p s m args meth c RX9 cX9_bendOf 14 (some .int) D (mm_T cI cL cS cH) A) (hA : ∀ q, s.heap.size ≤ q → A q) {v_keptMany : Int32} {v_done : Int32} {v_rowsOf : Int32} {v_folded : Int32} {v_wronged : Int32} {v_tapeMany : Int32} {v_textMany : Int32} {v_base : Int32} {v_at : Int32} {v_ends : Int32} {v_fault : Int32} {v_opened : Int32} {v_bentMany : Int32} {v_bentWrong : Int32} {v_moreWorn : Int32} {v_planned : Int32} {v_allWrong : Int32} {v_allWorn : Int32} {v_z : Int32} {v_wishedField : Int32} {v_isFound : Bool} {v_bestWrong : Int32} {v_bestWorn : Int32} {v_bestMany : Int32} {v_soughtBy : Int32} {v_sought : Int32} {v_soughtAt : Int32} {v_foundMany : Int32} {v_foundOrder : Int32} {v_isKept : Bool} {v_imageRows : Int32} {v_imageColumns : Int32} {v_imageFolded : Int32} {v_imageWronged : Int32} {v_bodies : Int32} {v_ran : Int32} {v_ownKind : Int32} {v_ownNumber : Int32} {v_changeWas : List Int32} {v_changeIs : List Int32} {v_shapeRows : List Int32} {v_shapeColumns : List Int32} {v_below : List Int32} {v_lastBend : List Int32} {v_tape : List Int32} {v_text : List Int32} {v_names : List Int32} {v_bends : List Int32} {v_high : List Int32} {v_to : List Int32} {v_pileSize : List Int32} {v_planLine : List Int32} {v_planWay : List Int32} {v_way1 : List Int32} {v_bestWay : List Int32} {v_order1 : List Int32} {v_placeIn : List Int32} {v_bodyKind : List Int32} {v_trace : List Int32} {v_shelf : List Int32} {v_many : List Int32} {v_items : List Int64} {v_carried : List Int64} {r : Int32} (N : Nat)  : ∀ (x1 : Int32) (x4 : Int32) (s0 : Int32) (v_columnsOf : Int32) (v_limit : List Int32) (v_row : List Int32) (v_column : List Int32) (v_face : List Int32) (v_worn : List Int32) (H : Heap) (locs : List Loc) (ls : Array Slot), fX9_bendOf_184 N x1 x4 s0 v_columnsOf v_limit v_row v_column v_face v_worn = some r → va_P D mm_cl (wd_X9 cI cL cS cH a v_keptMany v_done v_rowsOf v_columnsOf v_folded v_wronged v_tapeMany v_textMany v_base v_at v_ends v_fault v_opened v_bentMany v_bentWrong v_moreWorn v_planned v_allWrong v_allWorn v_z v_wishedField v_isFound v_bestWrong v_bestWorn v_bestMany v_soughtBy v_sought v_soughtAt v_foundMany v_foundOrder v_isKept v_imageRows v_imageColumns v_imageFolded v_imageWronged v_bodies v_ran v_ownKind v_ownNumber v_limit v_changeWas v_changeIs v_shapeRows v_shapeColumns v_row v_column v_below v_face v_worn v_lastBend v_tape v_text v_names v_bends v_high v_to v_pileSize v_planLine v_planWay v_way1 v_bestWay v_order1 v_placeIn v_bodyKind v_trace v_shelf v_many v_items v_carried) H → va_D A (wd_X9 cI cL cS cH a v_keptMany v_done v_rowsOf v_columnsOf v_folded v_wronged v_tapeMany v_textMany v_base v_at v_ends v_fault v_opened v_bentMany v_bentWrong v_moreWorn v_planned v_allWrong v_allWorn v_z v_wishedField v_isFound v_bestWrong v_bestWorn v_bestMany v_soughtBy v_sought v_soughtAt v_foundMany v_foundOrder v_isKept v_imageRows v_imageColumns v_imageFolded v_imageWronged v_bodies v_ran v_ownKind v_ownNumber v_limit v_changeWas v_changeIs v_shapeRows v_shapeColumns v_row v_column v_below v_face v_worn v_lastBend v_tape v_text v_names v_bends v_high v_to v_pileSize v_planLine v_planWay v_way1 v_bestWay v_order1 v_placeIn v_bodyKind v_trace v_shelf v_many v_items v_carried) → va_S A s.heap H locs → lv_has ls 14 [(0, .ref (a 0)), (1, .int x1), (4, .int x4)] → W p l e (mm_rr d) s m args below meth c H locs 0 0 (mm_Z below D A (wd_X9 cI cL cS cH a v_keptMany v_done v_rowsOf v_columnsOf v_folded v_wronged v_tapeMany v_textMany v_base v_at v_ends v_fault v_opened v_bentMany v_bentWrong v_moreWorn v_planned v_allWrong v_allWorn v_z v_wishedField v_isFound v_bestWrong v_bestWorn v_bestMany v_soughtBy v_sought v_soughtAt v_foundMany v_foundOrder v_isKept v_imageRows v_imageColumns v_imageFolded v_imageWronged v_bodies v_ran v_ownKind v_ownNumber v_limit v_changeWas v_changeIs v_shapeRows v_shapeColumns v_row v_column v_below v_face v_worn v_lastBend v_tape v_text v_names v_bends v_high v_to v_pileSize v_planLine v_planWay v_way1 v_bestWay v_order1 v_placeIn v_bodyKind v_trace v_shelf v_many v_items v_carried) (some (.int r)) args s) (F0 m 184 ls [.int s0]) := by
  obtain ⟨hx, hb, hml, hown, hts, hr, hlocks, hK, hSt⟩ := id C0
  intro x1 x4 s0 v_columnsOf v_limit v_row v_column v_face v_worn H locs ls hf hP hD hS hl
  unfold fX9_bendOf_184 at hf
  refine lv_istore (lv' := [(12, .int s0), (0, .ref (a 0)), (1, .int x1), (4, .int x4)]) hx hb dX9_bendOf_184 hl (by decide) rfl (fun ls hl => ?_)
  refine lv_iload hx hb dX9_bendOf_186 (lv_at hl 3 rfl) ?_
  refine lv_iconst (v := 2) hx hb dX9_bendOf_188 (by decide) ?_
  obtain ⟨h_27, hf⟩ := mm_cks hf
  refine lv_irem hx hb dX9_bendOf_189 (mm_nzs h_27) ?_
  refine lv_if_ne (tgt := 197) hx hb dX9_bendOf_190 (by decide) (fun c_28 => ?_) (fun c_28 => ?_)
  · have hf := mm_in hf c_28
    refine lv_iconst (v := 0) hx hb dX9_bendOf_197 (by decide) ?_
    exact tX9_bendOf_198 hd C0 hA N  _ _ _ _ _ _ _ _ _ H locs ls hf hP hD hS (lv_sub hl [1, 2, 0] rfl)
  · have hf := mm_ip hf c_28
    refine lv_iconst (v := 1) hx hb dX9_bendOf_193 (by decide) ?_
    refine lv_goto (tgt := 198) hx hb dX9_bendOf_194 (by decide) ?_
    exact tX9_bendOf_198 hd C0 hA N  _ _ _ _ _ _ _ _ _ H locs ls hf hP hD hS (lv_sub hl [1, 2, 0] rfl)

def fX9_bendOf_172 (N : Nat)  (x1 : Int32) (x4 : Int32) (x5 : Int32) (x6 : Int32) (x11 : Int32) (s0 : Int32) (v_columnsOf : Int32) (v_limit : List Int32) (v_row : List Int32) (v_column : List Int32) (v_face : List Int32) (v_worn : List Int32) : Option (Int32) :=
    if s0 = x11 then
    (fX9_bendOf_184 N x1 x4 x5 v_columnsOf v_limit v_row v_column v_face v_worn)
    else (fX9_bendOf_184 N x1 x4 x6 v_columnsOf v_limit v_row v_column v_face v_worn)

set_option maxHeartbeats 4000000 in
set_option maxRecDepth 100000 in
theorem tX9_bendOf_172 {p : Program} {l : Launch} {e : Env} {s : State} {m : MethodId} {args : Array Value} {below : List Frame} {meth : Method} {c : Code} {D : va_G} {cI cL cS cH : ClassId} {A : Nat → Prop} {d : Nat} {a : Nat → Nat} (hd : 2 ≤ d) (C0 : mm_Cx p s m args meth c RX9 cX9_bendOf 14 (some .int) D (mm_T cI cL cS cH) A) (hA : ∀ q, s.heap.size ≤ q → A q) {v_keptMany : Int32} {v_done : Int32} {v_rowsOf : Int32} {v_folded : Int32} {v_wronged : Int32} {v_tapeMany : Int32} {v_textMany : Int32} {v_base : Int32} {v_at : Int32} {v_ends : Int32} {v_fault : Int32} {v_opened : Int32} {v_bentMany : Int32} {v_bentWrong : Int32} {v_moreWorn : Int32} {v_planned : Int32} {v_allWrong : Int32} {v_allWorn : Int32} {v_z : Int32} {v_wishedField : Int32} {v_isFound : Bool} {v_bestWrong : Int32} {v_bestWorn : Int32} {v_bestMany : Int32} {v_soughtBy : Int32} {v_sought : Int32} {v_soughtAt : Int32} {v_foundMany : Int32} {v_foundOrder : Int32} {v_isKept : Bool} {v_imageRows : Int32} {v_imageColumns : Int32} {v_imageFolded : Int32} {v_imageWronged : Int32} {v_bodies : Int32} {v_ran : Int32} {v_ownKind : Int32} {v_ownNumber : Int32} {v_changeWas : List Int32} {v_changeIs : List Int32} {v_shapeRows : List Int32} {v_shapeColumns : List Int32} {v_below : List Int32} {v_lastBend : List Int32} {v_tape : List Int32} {v_text : List Int32} {v_names : List Int32} {v_bends : List Int32} {v_high : List Int32} {v_to : List Int32} {v_pileSize : List Int32} {v_planLine : List Int32} {v_planWay : List Int32} {v_way1 : List Int32} {v_bestWay : List Int32} {v_order1 : List Int32} {v_placeIn : List Int32} {v_bodyKind : List Int32} {v_trace : List Int32} {v_shelf : List Int32} {v_many : List Int32} {v_items : List Int64} {v_carried : List Int64} {r : Int32} (N : Nat)  : ∀ (x1 : Int32) (x4 : Int32) (x5 : Int32) (x6 : Int32) (x11 : Int32) (s0 : Int32) (v_columnsOf : Int32) (v_limit : List Int32) (v_row : List Int32) (v_column : List Int32) (v_face : List Int32) (v_worn : List Int32) (H : Heap) (locs : List Loc) (ls : Array Slot), fX9_bendOf_172 N x1 x4 x5 x6 x11 s0 v_columnsOf v_limit v_row v_column v_face v_worn = some r → va_P D mm_cl (wd_X9 cI cL cS cH a v_keptMany v_done v_rowsOf v_columnsOf v_folded v_wronged v_tapeMany v_textMany v_base v_at v_ends v_fault v_opened v_bentMany v_bentWrong v_moreWorn v_planned v_allWrong v_allWorn v_z v_wishedField v_isFound v_bestWrong v_bestWorn v_bestMany v_soughtBy v_sought v_soughtAt v_foundMany v_foundOrder v_isKept v_imageRows v_imageColumns v_imageFolded v_imageWronged v_bodies v_ran v_ownKind v_ownNumber v_limit v_changeWas v_changeIs v_shapeRows v_shapeColumns v_row v_column v_below v_face v_worn v_lastBend v_tape v_text v_names v_bends v_high v_to v_pileSize v_planLine v_planWay v_way1 v_bestWay v_order1 v_placeIn v_bodyKind v_trace v_shelf v_many v_items v_carried) H → va_D A (wd_X9 cI cL cS cH a v_keptMany v_done v_rowsOf v_columnsOf v_folded v_wronged v_tapeMany v_textMany v_base v_at v_ends v_fault v_opened v_bentMany v_bentWrong v_moreWorn v_planned v_allWrong v_allWorn v_z v_wishedField v_isFound v_bestWrong v_bestWorn v_bestMany v_soughtBy v_sought v_soughtAt v_foundMany v_foundOrder v_isKept v_imageRows v_imageColumns v_imageFolded v_imageWronged v_bodies v_ran v_ownKind v_ownNumber v_limit v_changeWas v_changeIs v_shapeRows v_shapeColumns v_row v_column v_below v_face v_worn v_lastBend v_tape v_text v_names v_bends v_high v_to v_pileSize v_planLine v_planWay v_way1 v_bestWay v_order1 v_placeIn v_bodyKind v_trace v_shelf v_many v_items v_carried) → va_S A s.heap H locs → lv_has ls 14 [(0, .ref (a 0)), (1, .int x1), (4, .int x4), (5, .int x5), (6, .int x6), (11, .int x11)] → W p l e (mm_rr d) s m args below meth c H locs 0 0 (mm_Z below D A (wd_X9 cI cL cS cH a v_keptMany v_done v_rowsOf v_columnsOf v_folded v_wronged v_tapeMany v_textMany v_base v_at v_ends v_fault v_opened v_bentMany v_bentWrong v_moreWorn v_planned v_allWrong v_allWorn v_z v_wishedField v_isFound v_bestWrong v_bestWorn v_bestMany v_soughtBy v_sought v_soughtAt v_foundMany v_foundOrder v_isKept v_imageRows v_imageColumns v_imageFolded v_imageWronged v_bodies v_ran v_ownKind v_ownNumber v_limit v_changeWas v_changeIs v_shapeRows v_shapeColumns v_row v_column v_below v_face v_worn v_lastBend v_tape v_text v_names v_bends v_high v_to v_pileSize v_planLine v_planWay v_way1 v_bestWay v_order1 v_placeIn v_bodyKind v_trace v_shelf v_many v_items v_carried) (some (.int r)) args s) (F0 m 172 ls [.int s0]) := by
  obtain ⟨hx, hb, hml, hown, hts, hr, hlocks, hK, hSt⟩ := id C0
  intro x1 x4 x5 x6 x11 s0 v_columnsOf v_limit v_row v_column v_face v_worn H locs ls hf hP hD hS hl
  unfold fX9_bendOf_172 at hf
  refine lv_iload hx hb dX9_bendOf_172 (lv_at hl 5 rfl) ?_
  refine lv_icmp_ne (tgt := 182) hx hb dX9_bendOf_174 (by decide) (fun c_26 => ?_) (fun c_26 => ?_)
  · have hf := mm_in hf c_26
    refine lv_iload hx hb dX9_bendOf_182 (lv_at hl 4 rfl) ?_
    exact tX9_bendOf_184 hd C0 hA N  _ _ _ _ _ _ _ _ _ H locs ls hf hP hD hS (lv_sub hl [0, 1, 2] rfl)
  · have hf := mm_ip hf c_26
    refine lv_iload hx hb dX9_bendOf_177 (lv_at hl 3 rfl) ?_
    refine lv_goto (tgt := 184) hx hb dX9_bendOf_179 (by decide) ?_
    exact tX9_bendOf_184 hd C0 hA N  _ _ _ _ _ _ _ _ _ H locs ls hf hP hD hS (lv_sub hl [0, 1, 2] rfl)

def fX9_bendOf_159 (N : Nat)  (x1 : Int32) (x3 : Int32) (x4 : Int32) (x5 : Int32) (x6 : Int32) (x8 : Int32) (s0 : Int32) (v_columnsOf : Int32) (v_limit : List Int32) (v_row : List Int32) (v_column : List Int32) (v_face : List Int32) (v_worn : List Int32) : Option (Int32) :=
    if x3 ≤ x8 then
    (fX9_bendOf_172 N x1 x4 x5 x6 s0 (0 : Int32) v_columnsOf v_limit v_row v_column v_face v_worn)
    else (fX9_bendOf_172 N x1 x4 x5 x6 s0 (1 : Int32) v_columnsOf v_limit v_row v_column v_face v_worn)

set_option maxHeartbeats 4000000 in
set_option maxRecDepth 100000 in
theorem tX9_bendOf_159 {p : Program} {l : Launch} {e : Env} {s : State} {m : MethodId} {args : Array Value} {below : List Frame} {meth : Method} {c : Code} {D : va_G} {cI cL cS cH : ClassId} {A : Nat → Prop} {d : Nat} {a : Nat → Nat} (hd : 2 ≤ d) (C0 : mm_Cx p s m args meth c RX9 cX9_bendOf 14 (some .int) D (mm_T cI cL cS cH) A) (hA : ∀ q, s.heap.size ≤ q → A q) {v_keptMany : Int32} {v_done : Int32} {v_rowsOf : Int32} {v_folded : Int32} {v_wronged : Int32} {v_tapeMany : Int32} {v_textMany : Int32} {v_base : Int32} {v_at : Int32} {v_ends : Int32} {v_fault : Int32} {v_opened : Int32} {v_bentMany : Int32} {v_bentWrong : Int32} {v_moreWorn : Int32} {v_planned : Int32} {v_allWrong : Int32} {v_allWorn : Int32} {v_z : Int32} {v_wishedField : Int32} {v_isFound : Bool} {v_bestWrong : Int32} {v_bestWorn : Int32} {v_bestMany : Int32} {v_soughtBy : Int32} {v_sought : Int32} {v_soughtAt : Int32} {v_foundMany : Int32} {v_foundOrder : Int32} {v_isKept : Bool} {v_imageRows : Int32} {v_imageColumns : Int32} {v_imageFolded : Int32} {v_imageWronged : Int32} {v_bodies : Int32} {v_ran : Int32} {v_ownKind : Int32} {v_ownNumber : Int32} {v_changeWas : List Int32} {v_changeIs : List Int32} {v_shapeRows : List Int32} {v_shapeColumns : List Int32} {v_below : List Int32} {v_lastBend : List Int32} {v_tape : List Int32} {v_text : List Int32} {v_names : List Int32} {v_bends : List Int32} {v_high : List Int32} {v_to : List Int32} {v_pileSize : List Int32} {v_planLine : List Int32} {v_planWay : List Int32} {v_way1 : List Int32} {v_bestWay : List Int32} {v_order1 : List Int32} {v_placeIn : List Int32} {v_bodyKind : List Int32} {v_trace : List Int32} {v_shelf : List Int32} {v_many : List Int32} {v_items : List Int64} {v_carried : List Int64} {r : Int32} (N : Nat)  : ∀ (x1 : Int32) (x3 : Int32) (x4 : Int32) (x5 : Int32) (x6 : Int32) (x8 : Int32) (s0 : Int32) (v_columnsOf : Int32) (v_limit : List Int32) (v_row : List Int32) (v_column : List Int32) (v_face : List Int32) (v_worn : List Int32) (H : Heap) (locs : List Loc) (ls : Array Slot), fX9_bendOf_159 N x1 x3 x4 x5 x6 x8 s0 v_columnsOf v_limit v_row v_column v_face v_worn = some r → va_P D mm_cl (wd_X9 cI cL cS cH a v_keptMany v_done v_rowsOf v_columnsOf v_folded v_wronged v_tapeMany v_textMany v_base v_at v_ends v_fault v_opened v_bentMany v_bentWrong v_moreWorn v_planned v_allWrong v_allWorn v_z v_wishedField v_isFound v_bestWrong v_bestWorn v_bestMany v_soughtBy v_sought v_soughtAt v_foundMany v_foundOrder v_isKept v_imageRows v_imageColumns v_imageFolded v_imageWronged v_bodies v_ran v_ownKind v_ownNumber v_limit v_changeWas v_changeIs v_shapeRows v_shapeColumns v_row v_column v_below v_face v_worn v_lastBend v_tape v_text v_names v_bends v_high v_to v_pileSize v_planLine v_planWay v_way1 v_bestWay v_order1 v_placeIn v_bodyKind v_trace v_shelf v_many v_items v_carried) H → va_D A (wd_X9 cI cL cS cH a v_keptMany v_done v_rowsOf v_columnsOf v_folded v_wronged v_tapeMany v_textMany v_base v_at v_ends v_fault v_opened v_bentMany v_bentWrong v_moreWorn v_planned v_allWrong v_allWorn v_z v_wishedField v_isFound v_bestWrong v_bestWorn v_bestMany v_soughtBy v_sought v_soughtAt v_foundMany v_foundOrder v_isKept v_imageRows v_imageColumns v_imageFolded v_imageWronged v_bodies v_ran v_ownKind v_ownNumber v_limit v_changeWas v_changeIs v_shapeRows v_shapeColumns v_row v_column v_below v_face v_worn v_lastBend v_tape v_text v_names v_bends v_high v_to v_pileSize v_planLine v_planWay v_way1 v_bestWay v_order1 v_placeIn v_bodyKind v_trace v_shelf v_many v_items v_carried) → va_S A s.heap H locs → lv_has ls 14 [(0, .ref (a 0)), (1, .int x1), (3, .int x3), (4, .int x4), (5, .int x5), (6, .int x6), (8, .int x8)] → W p l e (mm_rr d) s m args below meth c H locs 0 0 (mm_Z below D A (wd_X9 cI cL cS cH a v_keptMany v_done v_rowsOf v_columnsOf v_folded v_wronged v_tapeMany v_textMany v_base v_at v_ends v_fault v_opened v_bentMany v_bentWrong v_moreWorn v_planned v_allWrong v_allWorn v_z v_wishedField v_isFound v_bestWrong v_bestWorn v_bestMany v_soughtBy v_sought v_soughtAt v_foundMany v_foundOrder v_isKept v_imageRows v_imageColumns v_imageFolded v_imageWronged v_bodies v_ran v_ownKind v_ownNumber v_limit v_changeWas v_changeIs v_shapeRows v_shapeColumns v_row v_column v_below v_face v_worn v_lastBend v_tape v_text v_names v_bends v_high v_to v_pileSize v_planLine v_planWay v_way1 v_bestWay v_order1 v_placeIn v_bodyKind v_trace v_shelf v_many v_items v_carried) (some (.int r)) args s) (F0 m 159 ls [.int s0]) := by
  obtain ⟨hx, hb, hml, hown, hts, hr, hlocks, hK, hSt⟩ := id C0
  intro x1 x3 x4 x5 x6 x8 s0 v_columnsOf v_limit v_row v_column v_face v_worn H locs ls hf hP hD hS hl
  unfold fX9_bendOf_159 at hf
  refine lv_istore (lv' := [(11, .int s0), (0, .ref (a 0)), (1, .int x1), (3, .int x3), (4, .int x4), (5, .int x5), (6, .int x6), (8, .int x8)]) hx hb dX9_bendOf_159 hl (by decide) rfl (fun ls hl => ?_)
  refine lv_iload hx hb dX9_bendOf_161 (lv_at hl 7 rfl) ?_
  refine lv_iload_n hx hb dX9_bendOf_163 rfl (lv_at hl 3 rfl) ?_
  refine lv_icmp_ge (tgt := 171) hx hb dX9_bendOf_164 (by decide) (fun c_25 => ?_) (fun c_25 => ?_)
  · have hf := mm_ip hf c_25
    refine lv_iconst (v := 0) hx hb dX9_bendOf_171 (by decide) ?_
    exact tX9_bendOf_172 hd C0 hA N  _ _ _ _ _ _ _ _ _ _ _ _ H locs ls hf hP hD hS (lv_sub hl [1, 2, 4, 5, 6, 0] rfl)
  · have hf := mm_in hf c_25
    refine lv_iconst (v := 1) hx hb dX9_bendOf_167 (by decide) ?_
    refine lv_goto (tgt := 172) hx hb dX9_bendOf_168 (by decide) ?_
    exact tX9_bendOf_172 hd C0 hA N  _ _ _ _ _ _ _ _ _ _ _ _ H locs ls hf hP hD hS (lv_sub hl [1, 2, 4, 5, 6, 0] rfl)

def fX9_bendOf_118 (N : Nat)  (x1 : Int32) (x2 : Int32) (x3 : Int32) (x4 : Int32) (x5 : Int32) (x6 : Int32) (x8 : Int32) (s0 : Int32) (s1 : Int32) (s2 : Int32) (s4 : Int32) (v_columnsOf : Int32) (v_limit : List Int32) (v_row : List Int32) (v_column : List Int32) (v_face : List Int32) (v_worn : List Int32) : Option (Int32) :=
    mm_bd1 (fX9_placeOf N s2 s1 s0 v_row v_column) (fun (r_17 : Int32) =>
    if s4 = r_17 then
    (mm_ck (mm_inb (((64 : Int32) * x1) + x2) v_worn.length) (mm_ck (mm_inb (0 : Int32) v_limit.length) (if (mm_ig v_worn (((64 : Int32) * x1) + x2)) < (mm_ig v_limit (0 : Int32)) then
    (mm_ck (mm_nz (4 : Int32)) (if (2 : Int32) ≤ (mm_rem x4 (4 : Int32)) then
    (fX9_bendOf_159 N x1 x3 x4 x5 x6 x8 (0 : Int32) v_columnsOf v_limit v_row v_column v_face v_worn)
    else (fX9_bendOf_159 N x1 x3 x4 x5 x6 x8 (1 : Int32) v_columnsOf v_limit v_row v_column v_face v_worn)))
    else (some ((0 : Int32))))))
    else (some ((0 : Int32))))

set_option maxHeartbeats 4000000 in
set_option maxRecDepth 100000 in
theorem tX9_bendOf_118 {p : Program} {l : Launch} {e : Env} {s : State} {m : MethodId} {args : Array Value} {below : List Frame} {meth : Method} {c : Code} {D : va_G} {cI cL cS cH : ClassId} {A : Nat → Prop} {d : Nat} {a : Nat → Nat} (hd : 2 ≤ d) (C0 : mm_Cx p s m args meth c RX9 cX9_bendOf 14 (some .int) D (mm_T cI cL cS cH) A) (hA : ∀ q, s.heap.size ≤ q → A q) {v_keptMany : Int32} {v_done : Int32} {v_rowsOf : Int32} {v_folded : Int32} {v_wronged : Int32} {v_tapeMany : Int32} {v_textMany : Int32} {v_base : Int32} {v_at : Int32} {v_ends : Int32} {v_fault : Int32} {v_opened : Int32} {v_bentMany : Int32} {v_bentWrong : Int32} {v_moreWorn : Int32} {v_planned : Int32} {v_allWrong : Int32} {v_allWorn : Int32} {v_z : Int32} {v_wishedField : Int32} {v_isFound : Bool} {v_bestWrong : Int32} {v_bestWorn : Int32} {v_bestMany : Int32} {v_soughtBy : Int32} {v_sought : Int32} {v_soughtAt : Int32} {v_foundMany : Int32} {v_foundOrder : Int32} {v_isKept : Bool} {v_imageRows : Int32} {v_imageColumns : Int32} {v_imageFolded : Int32} {v_imageWronged : Int32} {v_bodies : Int32} {v_ran : Int32} {v_ownKind : Int32} {v_ownNumber : Int32} {v_changeWas : List Int32} {v_changeIs : List Int32} {v_shapeRows : List Int32} {v_shapeColumns : List Int32} {v_below : List Int32} {v_lastBend : List Int32} {v_tape : List Int32} {v_text : List Int32} {v_names : List Int32} {v_bends : List Int32} {v_high : List Int32} {v_to : List Int32} {v_pileSize : List Int32} {v_planLine : List Int32} {v_planWay : List Int32} {v_way1 : List Int32} {v_bestWay : List Int32} {v_order1 : List Int32} {v_placeIn : List Int32} {v_bodyKind : List Int32} {v_trace : List Int32} {v_shelf : List Int32} {v_many : List Int32} {v_items : List Int64} {v_carried : List Int64} {r : Int32} (N : Nat)  : ∀ (x1 : Int32) (x2 : Int32) (x3 : Int32) (x4 : Int32) (x5 : Int32) (x6 : Int32) (x8 : Int32) (s0 : Int32) (s1 : Int32) (s2 : Int32) (s4 : Int32) (v_columnsOf : Int32) (v_limit : List Int32) (v_row : List Int32) (v_column : List Int32) (v_face : List Int32) (v_worn : List Int32) (H : Heap) (locs : List Loc) (ls : Array Slot), fX9_bendOf_118 N x1 x2 x3 x4 x5 x6 x8 s0 s1 s2 s4 v_columnsOf v_limit v_row v_column v_face v_worn = some r → va_P D mm_cl (wd_X9 cI cL cS cH a v_keptMany v_done v_rowsOf v_columnsOf v_folded v_wronged v_tapeMany v_textMany v_base v_at v_ends v_fault v_opened v_bentMany v_bentWrong v_moreWorn v_planned v_allWrong v_allWorn v_z v_wishedField v_isFound v_bestWrong v_bestWorn v_bestMany v_soughtBy v_sought v_soughtAt v_foundMany v_foundOrder v_isKept v_imageRows v_imageColumns v_imageFolded v_imageWronged v_bodies v_ran v_ownKind v_ownNumber v_limit v_changeWas v_changeIs v_shapeRows v_shapeColumns v_row v_column v_below v_face v_worn v_lastBend v_tape v_text v_names v_bends v_high v_to v_pileSize v_planLine v_planWay v_way1 v_bestWay v_order1 v_placeIn v_bodyKind v_trace v_shelf v_many v_items v_carried) H → va_D A (wd_X9 cI cL cS cH a v_keptMany v_done v_rowsOf v_columnsOf v_folded v_wronged v_tapeMany v_textMany v_base v_at v_ends v_fault v_opened v_bentMany v_bentWrong v_moreWorn v_planned v_allWrong v_allWorn v_z v_wishedField v_isFound v_bestWrong v_bestWorn v_bestMany v_soughtBy v_sought v_soughtAt v_foundMany v_foundOrder v_isKept v_imageRows v_imageColumns v_imageFolded v_imageWronged v_bodies v_ran v_ownKind v_ownNumber v_limit v_changeWas v_changeIs v_shapeRows v_shapeColumns v_row v_column v_below v_face v_worn v_lastBend v_tape v_text v_names v_bends v_high v_to v_pileSize v_planLine v_planWay v_way1 v_bestWay v_order1 v_placeIn v_bodyKind v_trace v_shelf v_many v_items v_carried) → va_S A s.heap H locs → lv_has ls 14 [(0, .ref (a 0)), (1, .int x1), (2, .int x2), (3, .int x3), (4, .int x4), (5, .int x5), (6, .int x6), (8, .int x8)] → W p l e (mm_rr d) s m args below meth c H locs 0 0 (mm_Z below D A (wd_X9 cI cL cS cH a v_keptMany v_done v_rowsOf v_columnsOf v_folded v_wronged v_tapeMany v_textMany v_base v_at v_ends v_fault v_opened v_bentMany v_bentWrong v_moreWorn v_planned v_allWrong v_allWorn v_z v_wishedField v_isFound v_bestWrong v_bestWorn v_bestMany v_soughtBy v_sought v_soughtAt v_foundMany v_foundOrder v_isKept v_imageRows v_imageColumns v_imageFolded v_imageWronged v_bodies v_ran v_ownKind v_ownNumber v_limit v_changeWas v_changeIs v_shapeRows v_shapeColumns v_row v_column v_below v_face v_worn v_lastBend v_tape v_text v_names v_bends v_high v_to v_pileSize v_planLine v_planWay v_way1 v_bestWay v_order1 v_placeIn v_bodyKind v_trace v_shelf v_many v_items v_carried) (some (.int r)) args s) (F0 m 118 ls [.int s0, .int s1, .int s2, .ref (a 0), .int s4]) := by
  obtain ⟨hx, hb, hml, hown, hts, hr, hlocks, hK, hSt⟩ := id C0
  intro x1 x2 x3 x4 x5 x6 x8 s0 s1 s2 s4 v_columnsOf v_limit v_row v_column v_face v_worn H locs ls hf hP hD hS hl
  unfold fX9_bendOf_118 at hf
  obtain ⟨r_17, hc_18, hf⟩ := mm_bd1s hf
  refine mm_callVF (q0 := 0) (ci := 9) (rest := [.int s4]) C0 lk_X9_204 (ctX9_placeOf (a := a) (d := d - 1) (by omega) hc_18) (by omega) rfl hl.1 rfl (mm_cat rfl) dX9_bendOf_118 hP hD hA hS rfl rfl (fun H locs hP hD hS => ?_)
  refine W.eq (g2 := F0 m 121 ls [.int r_17, .int s4]) rfl ?_
  refine lv_icmp_ne (tgt := 144) hx hb dX9_bendOf_121 (by decide) (fun c_19 => ?_) (fun c_19 => ?_)
  · have hf := mm_in hf c_19
    refine lv_iconst (v := 0) hx hb dX9_bendOf_144 (by decide) ?_
    obtain rfl := mm_inj1 hf
    exact mm_iret C0 hP hD hS dX9_bendOf_145
  · have hf := mm_ip hf c_19
    refine lv_aload_n hx hb dX9_bendOf_124 rfl (lv_at hl 0 rfl) ?_
    refine mm_get C0 hP iw_X9 0 rfl rfl 13 (by decide) fl_X9_37 rfl dX9_bendOf_125 ?_
    refine lv_bipush (v := 64) hx hb dX9_bendOf_128 (by decide) ?_
    refine lv_iload_n hx hb dX9_bendOf_130 rfl (lv_at hl 1 rfl) ?_
    refine lv_imul hx hb dX9_bendOf_131 ?_
    refine lv_iload_n hx hb dX9_bendOf_132 rfl (lv_at hl 2 rfl) ?_
    refine lv_iadd hx hb dX9_bendOf_133 ?_
    obtain ⟨h_20, hf⟩ := mm_cks hf
    refine mm_iald C0 hP 10 rfl h_20 dX9_bendOf_134 ?_
    refine lv_aload_n hx hb dX9_bendOf_135 rfl (lv_at hl 0 rfl) ?_
    refine mm_get C0 hP iw_X9 0 rfl rfl 0 (by decide) fl_X9_7 rfl dX9_bendOf_136 ?_
    refine lv_iconst (v := 0) hx hb dX9_bendOf_139 (by decide) ?_
    obtain ⟨h_21, hf⟩ := mm_cks hf
    refine mm_iald C0 hP 1 rfl h_21 dX9_bendOf_140 ?_
    refine lv_icmp_lt (tgt := 146) hx hb dX9_bendOf_141 (by decide) (fun c_22 => ?_) (fun c_22 => ?_)
    · have hf := mm_ip hf c_22
      refine lv_iload hx hb dX9_bendOf_146 (lv_at hl 4 rfl) ?_
      refine lv_iconst (v := 4) hx hb dX9_bendOf_148 (by decide) ?_
      obtain ⟨h_23, hf⟩ := mm_cks hf
      refine lv_irem hx hb dX9_bendOf_149 (mm_nzs h_23) ?_
      refine lv_iconst (v := 2) hx hb dX9_bendOf_150 (by decide) ?_
      refine lv_icmp_ge (tgt := 158) hx hb dX9_bendOf_151 (by decide) (fun c_24 => ?_) (fun c_24 => ?_)
      · have hf := mm_ip hf c_24
        refine lv_iconst (v := 0) hx hb dX9_bendOf_158 (by decide) ?_
        exact tX9_bendOf_159 hd C0 hA N  _ _ _ _ _ _ _ _ _ _ _ _ _ H locs ls hf hP hD hS (lv_sub hl [0, 1, 3, 4, 5, 6, 7] rfl)
      · have hf := mm_in hf c_24
        refine lv_iconst (v := 1) hx hb dX9_bendOf_154 (by decide) ?_
        refine lv_goto (tgt := 159) hx hb dX9_bendOf_155 (by decide) ?_
        exact tX9_bendOf_159 hd C0 hA N  _ _ _ _ _ _ _ _ _ _ _ _ _ H locs ls hf hP hD hS (lv_sub hl [0, 1, 3, 4, 5, 6, 7] rfl)
    · have hf := mm_in hf c_22
      refine lv_iconst (v := 0) hx hb dX9_bendOf_144 (by decide) ?_
      obtain rfl := mm_inj1 hf
      exact mm_iret C0 hP hD hS dX9_bendOf_145

def fX9_bendOf_101 (N : Nat)  (x1 : Int32) (x2 : Int32) (x3 : Int32) (x4 : Int32) (x5 : Int32) (x6 : Int32) (x7 : Int32) (x8 : Int32) (s0 : Int32) (s1 : Int32) (s2 : Int32) (v_columnsOf : Int32) (v_limit : List Int32) (v_row : List Int32) (v_column : List Int32) (v_face : List Int32) (v_worn : List Int32) : Option (Int32) :=
    mm_bd1 (fX9_placeOf N s2 s1 s0 v_row v_column) (fun (r_14 : Int32) =>
    if x7 = 0 then
    (fX9_bendOf_118 N x1 x2 x3 x4 x5 x6 x8 (1 : Int32) x6 x1 r_14 v_columnsOf v_limit v_row v_column v_face v_worn)
    else (fX9_bendOf_118 N x1 x2 x3 x4 x5 x6 x8 (0 : Int32) x6 x1 r_14 v_columnsOf v_limit v_row v_column v_face v_worn))

set_option maxHeartbeats 4000000 in
set_option maxRecDepth 100000 in
theorem tX9_bendOf_101 {p : Program} {l : Launch} {e : Env} {s : State} {m : MethodId} {args : Array Value} {below : List Frame} {meth : Method} {c : Code} {D : va_G} {cI cL cS cH : ClassId} {A : Nat → Prop} {d : Nat} {a : Nat → Nat} (hd : 2 ≤ d) (C0 : mm_Cx p s m args meth c RX9 cX9_bendOf 14 (some .int) D (mm_T cI cL cS cH) A) (hA : ∀ q, s.heap.size ≤ q → A q) {v_keptMany : Int32} {v_done : Int32} {v_rowsOf : Int32} {v_folded : Int32} {v_wronged : Int32} {v_tapeMany : Int32} {v_textMany : Int32} {v_base : Int32} {v_at : Int32} {v_ends : Int32} {v_fault : Int32} {v_opened : Int32} {v_bentMany : Int32} {v_bentWrong : Int32} {v_moreWorn : Int32} {v_planned : Int32} {v_allWrong : Int32} {v_allWorn : Int32} {v_z : Int32} {v_wishedField : Int32} {v_isFound : Bool} {v_bestWrong : Int32} {v_bestWorn : Int32} {v_bestMany : Int32} {v_soughtBy : Int32} {v_sought : Int32} {v_soughtAt : Int32} {v_foundMany : Int32} {v_foundOrder : Int32} {v_isKept : Bool} {v_imageRows : Int32} {v_imageColumns : Int32} {v_imageFolded : Int32} {v_imageWronged : Int32} {v_bodies : Int32} {v_ran : Int32} {v_ownKind : Int32} {v_ownNumber : Int32} {v_changeWas : List Int32} {v_changeIs : List Int32} {v_shapeRows : List Int32} {v_shapeColumns : List Int32} {v_below : List Int32} {v_lastBend : List Int32} {v_tape : List Int32} {v_text : List Int32} {v_names : List Int32} {v_bends : List Int32} {v_high : List Int32} {v_to : List Int32} {v_pileSize : List Int32} {v_planLine : List Int32} {v_planWay : List Int32} {v_way1 : List Int32} {v_bestWay : List Int32} {v_order1 : List Int32} {v_placeIn : List Int32} {v_bodyKind : List Int32} {v_trace : List Int32} {v_shelf : List Int32} {v_many : List Int32} {v_items : List Int64} {v_carried : List Int64} {r : Int32} (N : Nat)  : ∀ (x1 : Int32) (x2 : Int32) (x3 : Int32) (x4 : Int32) (x5 : Int32) (x6 : Int32) (x7 : Int32) (x8 : Int32) (s0 : Int32) (s1 : Int32) (s2 : Int32) (v_columnsOf : Int32) (v_limit : List Int32) (v_row : List Int32) (v_column : List Int32) (v_face : List Int32) (v_worn : List Int32) (H : Heap) (locs : List Loc) (ls : Array Slot), fX9_bendOf_101 N x1 x2 x3 x4 x5 x6 x7 x8 s0 s1 s2 v_columnsOf v_limit v_row v_column v_face v_worn = some r → va_P D mm_cl (wd_X9 cI cL cS cH a v_keptMany v_done v_rowsOf v_columnsOf v_folded v_wronged v_tapeMany v_textMany v_base v_at v_ends v_fault v_opened v_bentMany v_bentWrong v_moreWorn v_planned v_allWrong v_allWorn v_z v_wishedField v_isFound v_bestWrong v_bestWorn v_bestMany v_soughtBy v_sought v_soughtAt v_foundMany v_foundOrder v_isKept v_imageRows v_imageColumns v_imageFolded v_imageWronged v_bodies v_ran v_ownKind v_ownNumber v_limit v_changeWas v_changeIs v_shapeRows v_shapeColumns v_row v_column v_below v_face v_worn v_lastBend v_tape v_text v_names v_bends v_high v_to v_pileSize v_planLine v_planWay v_way1 v_bestWay v_order1 v_placeIn v_bodyKind v_trace v_shelf v_many v_items v_carried) H → va_D A (wd_X9 cI cL cS cH a v_keptMany v_done v_rowsOf v_columnsOf v_folded v_wronged v_tapeMany v_textMany v_base v_at v_ends v_fault v_opened v_bentMany v_bentWrong v_moreWorn v_planned v_allWrong v_allWorn v_z v_wishedField v_isFound v_bestWrong v_bestWorn v_bestMany v_soughtBy v_sought v_soughtAt v_foundMany v_foundOrder v_isKept v_imageRows v_imageColumns v_imageFolded v_imageWronged v_bodies v_ran v_ownKind v_ownNumber v_limit v_changeWas v_changeIs v_shapeRows v_shapeColumns v_row v_column v_below v_face v_worn v_lastBend v_tape v_text v_names v_bends v_high v_to v_pileSize v_planLine v_planWay v_way1 v_bestWay v_order1 v_placeIn v_bodyKind v_trace v_shelf v_many v_items v_carried) → va_S A s.heap H locs → lv_has ls 14 [(0, .ref (a 0)), (1, .int x1), (2, .int x2), (3, .int x3), (4, .int x4), (5, .int x5), (6, .int x6), (7, .int x7), (8, .int x8)] → W p l e (mm_rr d) s m args below meth c H locs 0 0 (mm_Z below D A (wd_X9 cI cL cS cH a v_keptMany v_done v_rowsOf v_columnsOf v_folded v_wronged v_tapeMany v_textMany v_base v_at v_ends v_fault v_opened v_bentMany v_bentWrong v_moreWorn v_planned v_allWrong v_allWorn v_z v_wishedField v_isFound v_bestWrong v_bestWorn v_bestMany v_soughtBy v_sought v_soughtAt v_foundMany v_foundOrder v_isKept v_imageRows v_imageColumns v_imageFolded v_imageWronged v_bodies v_ran v_ownKind v_ownNumber v_limit v_changeWas v_changeIs v_shapeRows v_shapeColumns v_row v_column v_below v_face v_worn v_lastBend v_tape v_text v_names v_bends v_high v_to v_pileSize v_planLine v_planWay v_way1 v_bestWay v_order1 v_placeIn v_bodyKind v_trace v_shelf v_many v_items v_carried) (some (.int r)) args s) (F0 m 101 ls [.int s0, .int s1, .int s2, .ref (a 0)]) := by
  obtain ⟨hx, hb, hml, hown, hts, hr, hlocks, hK, hSt⟩ := id C0
  intro x1 x2 x3 x4 x5 x6 x7 x8 s0 s1 s2 v_columnsOf v_limit v_row v_column v_face v_worn H locs ls hf hP hD hS hl
  unfold fX9_bendOf_101 at hf
  obtain ⟨r_14, hc_15, hf⟩ := mm_bd1s hf
  refine mm_callVF (q0 := 0) (ci := 9) (rest := []) C0 lk_X9_204 (ctX9_placeOf (a := a) (d := d - 1) (by omega) hc_15) (by omega) rfl hl.1 rfl (mm_cat rfl) dX9_bendOf_101 hP hD hA hS rfl rfl (fun H locs hP hD hS => ?_)
  refine W.eq (g2 := F0 m 104 ls [.int r_14]) rfl ?_
  refine lv_aload_n hx hb dX9_bendOf_104 rfl (lv_at hl 0 rfl) ?_
  refine lv_iload_n hx hb dX9_bendOf_105 rfl (lv_at hl 1 rfl) ?_
  refine lv_iload hx hb dX9_bendOf_106 (lv_at hl 6 rfl) ?_
  refine lv_iload hx hb dX9_bendOf_108 (lv_at hl 7 rfl) ?_
  refine lv_if_ne (tgt := 117) hx hb dX9_bendOf_110 (by decide) (fun c_16 => ?_) (fun c_16 => ?_)
  · have hf := mm_in hf c_16
    refine lv_iconst (v := 0) hx hb dX9_bendOf_117 (by decide) ?_
    exact tX9_bendOf_118 hd C0 hA N  _ _ _ _ _ _ _ _ _ _ _ _ _ _ _ _ _ H locs ls hf hP hD hS (lv_sub hl [0, 1, 2, 3, 4, 5, 6, 8] rfl)
  · have hf := mm_ip hf c_16
    refine lv_iconst (v := 1) hx hb dX9_bendOf_113 (by decide) ?_
    refine lv_goto (tgt := 118) hx hb dX9_bendOf_114 (by decide) ?_
    exact tX9_bendOf_118 hd C0 hA N  _ _ _ _ _ _ _ _ _ _ _ _ _ _ _ _ _ H locs ls hf hP hD hS (lv_sub hl [0, 1, 2, 3, 4, 5, 6, 8] rfl)

def fX9_bendOf_80 (N : Nat)  (x1 : Int32) (x2 : Int32) (x3 : Int32) (x4 : Int32) (x5 : Int32) (x6 : Int32) (x7 : Int32) (x8 : Int32) (s0 : Int32) (v_columnsOf : Int32) (v_limit : List Int32) (v_row : List Int32) (v_column : List Int32) (v_face : List Int32) (v_worn : List Int32) : Option (Int32) :=
    if s0 = 0 then
    (some ((0 : Int32)))
    else (if x7 = 0 then
    (fX9_bendOf_101 N x1 x2 x3 x4 x5 x6 x7 x8 (1 : Int32) x5 x1 v_columnsOf v_limit v_row v_column v_face v_worn)
    else (fX9_bendOf_101 N x1 x2 x3 x4 x5 x6 x7 x8 (0 : Int32) x5 x1 v_columnsOf v_limit v_row v_column v_face v_worn))

set_option maxHeartbeats 4000000 in
set_option maxRecDepth 100000 in
theorem tX9_bendOf_80 {p : Program} {l : Launch} {e : Env} {s : State} {m : MethodId} {args : Array Value} {below : List Frame} {meth : Method} {c : Code} {D : va_G} {cI cL cS cH : ClassId} {A : Nat → Prop} {d : Nat} {a : Nat → Nat} (hd : 2 ≤ d) (C0 : mm_Cx p s m args meth c RX9 cX9_bendOf 14 (some .int) D (mm_T cI cL cS cH) A) (hA : ∀ q, s.heap.size ≤ q → A q) {v_keptMany : Int32} {v_done : Int32} {v_rowsOf : Int32} {v_folded : Int32} {v_wronged : Int32} {v_tapeMany : Int32} {v_textMany : Int32} {v_base : Int32} {v_at : Int32} {v_ends : Int32} {v_fault : Int32} {v_opened : Int32} {v_bentMany : Int32} {v_bentWrong : Int32} {v_moreWorn : Int32} {v_planned : Int32} {v_allWrong : Int32} {v_allWorn : Int32} {v_z : Int32} {v_wishedField : Int32} {v_isFound : Bool} {v_bestWrong : Int32} {v_bestWorn : Int32} {v_bestMany : Int32} {v_soughtBy : Int32} {v_sought : Int32} {v_soughtAt : Int32} {v_foundMany : Int32} {v_foundOrder : Int32} {v_isKept : Bool} {v_imageRows : Int32} {v_imageColumns : Int32} {v_imageFolded : Int32} {v_imageWronged : Int32} {v_bodies : Int32} {v_ran : Int32} {v_ownKind : Int32} {v_ownNumber : Int32} {v_changeWas : List Int32} {v_changeIs : List Int32} {v_shapeRows : List Int32} {v_shapeColumns : List Int32} {v_below : List Int32} {v_lastBend : List Int32} {v_tape : List Int32} {v_text : List Int32} {v_names : List Int32} {v_bends : List Int32} {v_high : List Int32} {v_to : List Int32} {v_pileSize : List Int32} {v_planLine : List Int32} {v_planWay : List Int32} {v_way1 : List Int32} {v_bestWay : List Int32} {v_order1 : List Int32} {v_placeIn : List Int32} {v_bodyKind : List Int32} {v_trace : List Int32} {v_shelf : List Int32} {v_many : List Int32} {v_items : List Int64} {v_carried : List Int64} {r : Int32} (N : Nat)  : ∀ (x1 : Int32) (x2 : Int32) (x3 : Int32) (x4 : Int32) (x5 : Int32) (x6 : Int32) (x7 : Int32) (x8 : Int32) (s0 : Int32) (v_columnsOf : Int32) (v_limit : List Int32) (v_row : List Int32) (v_column : List Int32) (v_face : List Int32) (v_worn : List Int32) (H : Heap) (locs : List Loc) (ls : Array Slot), fX9_bendOf_80 N x1 x2 x3 x4 x5 x6 x7 x8 s0 v_columnsOf v_limit v_row v_column v_face v_worn = some r → va_P D mm_cl (wd_X9 cI cL cS cH a v_keptMany v_done v_rowsOf v_columnsOf v_folded v_wronged v_tapeMany v_textMany v_base v_at v_ends v_fault v_opened v_bentMany v_bentWrong v_moreWorn v_planned v_allWrong v_allWorn v_z v_wishedField v_isFound v_bestWrong v_bestWorn v_bestMany v_soughtBy v_sought v_soughtAt v_foundMany v_foundOrder v_isKept v_imageRows v_imageColumns v_imageFolded v_imageWronged v_bodies v_ran v_ownKind v_ownNumber v_limit v_changeWas v_changeIs v_shapeRows v_shapeColumns v_row v_column v_below v_face v_worn v_lastBend v_tape v_text v_names v_bends v_high v_to v_pileSize v_planLine v_planWay v_way1 v_bestWay v_order1 v_placeIn v_bodyKind v_trace v_shelf v_many v_items v_carried) H → va_D A (wd_X9 cI cL cS cH a v_keptMany v_done v_rowsOf v_columnsOf v_folded v_wronged v_tapeMany v_textMany v_base v_at v_ends v_fault v_opened v_bentMany v_bentWrong v_moreWorn v_planned v_allWrong v_allWorn v_z v_wishedField v_isFound v_bestWrong v_bestWorn v_bestMany v_soughtBy v_sought v_soughtAt v_foundMany v_foundOrder v_isKept v_imageRows v_imageColumns v_imageFolded v_imageWronged v_bodies v_ran v_ownKind v_ownNumber v_limit v_changeWas v_changeIs v_shapeRows v_shapeColumns v_row v_column v_below v_face v_worn v_lastBend v_tape v_text v_names v_bends v_high v_to v_pileSize v_planLine v_planWay v_way1 v_bestWay v_order1 v_placeIn v_bodyKind v_trace v_shelf v_many v_items v_carried) → va_S A s.heap H locs → lv_has ls 14 [(0, .ref (a 0)), (1, .int x1), (2, .int x2), (3, .int x3), (4, .int x4), (5, .int x5), (6, .int x6), (7, .int x7), (8, .int x8)] → W p l e (mm_rr d) s m args below meth c H locs 0 0 (mm_Z below D A (wd_X9 cI cL cS cH a v_keptMany v_done v_rowsOf v_columnsOf v_folded v_wronged v_tapeMany v_textMany v_base v_at v_ends v_fault v_opened v_bentMany v_bentWrong v_moreWorn v_planned v_allWrong v_allWorn v_z v_wishedField v_isFound v_bestWrong v_bestWorn v_bestMany v_soughtBy v_sought v_soughtAt v_foundMany v_foundOrder v_isKept v_imageRows v_imageColumns v_imageFolded v_imageWronged v_bodies v_ran v_ownKind v_ownNumber v_limit v_changeWas v_changeIs v_shapeRows v_shapeColumns v_row v_column v_below v_face v_worn v_lastBend v_tape v_text v_names v_bends v_high v_to v_pileSize v_planLine v_planWay v_way1 v_bestWay v_order1 v_placeIn v_bodyKind v_trace v_shelf v_many v_items v_carried) (some (.int r)) args s) (F0 m 80 ls [.int s0]) := by
  obtain ⟨hx, hb, hml, hown, hts, hr, hlocks, hK, hSt⟩ := id C0
  intro x1 x2 x3 x4 x5 x6 x7 x8 s0 v_columnsOf v_limit v_row v_column v_face v_worn H locs ls hf hP hD hS hl
  unfold fX9_bendOf_80 at hf
  refine lv_istore (lv' := [(10, .int s0), (0, .ref (a 0)), (1, .int x1), (2, .int x2), (3, .int x3), (4, .int x4), (5, .int x5), (6, .int x6), (7, .int x7), (8, .int x8)]) hx hb dX9_bendOf_80 hl (by decide) rfl (fun ls hl => ?_)
  refine lv_iload hx hb dX9_bendOf_82 (lv_at hl 0 rfl) ?_
  refine lv_if_eq (tgt := 144) hx hb dX9_bendOf_84 (by decide) (fun c_12 => ?_) (fun c_12 => ?_)
  · have hf := mm_ip hf c_12
    refine lv_iconst (v := 0) hx hb dX9_bendOf_144 (by decide) ?_
    obtain rfl := mm_inj1 hf
    exact mm_iret C0 hP hD hS dX9_bendOf_145
  · have hf := mm_in hf c_12
    refine lv_aload_n hx hb dX9_bendOf_87 rfl (lv_at hl 1 rfl) ?_
    refine lv_iload_n hx hb dX9_bendOf_88 rfl (lv_at hl 2 rfl) ?_
    refine lv_iload hx hb dX9_bendOf_89 (lv_at hl 6 rfl) ?_
    refine lv_iload hx hb dX9_bendOf_91 (lv_at hl 8 rfl) ?_
    refine lv_if_ne (tgt := 100) hx hb dX9_bendOf_93 (by decide) (fun c_13 => ?_) (fun c_13 => ?_)
    · have hf := mm_in hf c_13
      refine lv_iconst (v := 0) hx hb dX9_bendOf_100 (by decide) ?_
      exact tX9_bendOf_101 hd C0 hA N  _ _ _ _ _ _ _ _ _ _ _ _ _ _ _ _ _ H locs ls hf hP hD hS (lv_sub hl [1, 2, 3, 4, 5, 6, 7, 8, 9] rfl)
    · have hf := mm_ip hf c_13
      refine lv_iconst (v := 1) hx hb dX9_bendOf_96 (by decide) ?_
      refine lv_goto (tgt := 101) hx hb dX9_bendOf_97 (by decide) ?_
      exact tX9_bendOf_101 hd C0 hA N  _ _ _ _ _ _ _ _ _ _ _ _ _ _ _ _ _ H locs ls hf hP hD hS (lv_sub hl [1, 2, 3, 4, 5, 6, 7, 8, 9] rfl)

def fX9_bendOf_75 (N : Nat)  (x1 : Int32) (x2 : Int32) (x3 : Int32) (x4 : Int32) (x5 : Int32) (x6 : Int32) (x7 : Int32) (x8 : Int32) (v_columnsOf : Int32) (v_limit : List Int32) (v_row : List Int32) (v_column : List Int32) (v_face : List Int32) (v_worn : List Int32) : Option (Int32) :=
    fX9_bendOf_80 N x1 x2 x3 x4 x5 x6 x7 x8 (1 : Int32) v_columnsOf v_limit v_row v_column v_face v_worn

set_option maxHeartbeats 4000000 in
set_option maxRecDepth 100000 in
theorem tX9_bendOf_75 {p : Program} {l : Launch} {e : Env} {s : State} {m : MethodId} {args : Array Value} {below : List Frame} {meth : Method} {c : Code} {D : va_G} {cI cL cS cH : ClassId} {A : Nat → Prop} {d : Nat} {a : Nat → Nat} (hd : 2 ≤ d) (C0 : mm_Cx p s m args meth c RX9 cX9_bendOf 14 (some .int) D (mm_T cI cL cS cH) A) (hA : ∀ q, s.heap.size ≤ q → A q) {v_keptMany : Int32} {v_done : Int32} {v_rowsOf : Int32} {v_folded : Int32} {v_wronged : Int32} {v_tapeMany : Int32} {v_textMany : Int32} {v_base : Int32} {v_at : Int32} {v_ends : Int32} {v_fault : Int32} {v_opened : Int32} {v_bentMany : Int32} {v_bentWrong : Int32} {v_moreWorn : Int32} {v_planned : Int32} {v_allWrong : Int32} {v_allWorn : Int32} {v_z : Int32} {v_wishedField : Int32} {v_isFound : Bool} {v_bestWrong : Int32} {v_bestWorn : Int32} {v_bestMany : Int32} {v_soughtBy : Int32} {v_sought : Int32} {v_soughtAt : Int32} {v_foundMany : Int32} {v_foundOrder : Int32} {v_isKept : Bool} {v_imageRows : Int32} {v_imageColumns : Int32} {v_imageFolded : Int32} {v_imageWronged : Int32} {v_bodies : Int32} {v_ran : Int32} {v_ownKind : Int32} {v_ownNumber : Int32} {v_changeWas : List Int32} {v_changeIs : List Int32} {v_shapeRows : List Int32} {v_shapeColumns : List Int32} {v_below : List Int32} {v_lastBend : List Int32} {v_tape : List Int32} {v_text : List Int32} {v_names : List Int32} {v_bends : List Int32} {v_high : List Int32} {v_to : List Int32} {v_pileSize : List Int32} {v_planLine : List Int32} {v_planWay : List Int32} {v_way1 : List Int32} {v_bestWay : List Int32} {v_order1 : List Int32} {v_placeIn : List Int32} {v_bodyKind : List Int32} {v_trace : List Int32} {v_shelf : List Int32} {v_many : List Int32} {v_items : List Int64} {v_carried : List Int64} {r : Int32} (N : Nat)  : ∀ (x1 : Int32) (x2 : Int32) (x3 : Int32) (x4 : Int32) (x5 : Int32) (x6 : Int32) (x7 : Int32) (x8 : Int32) (v_columnsOf : Int32) (v_limit : List Int32) (v_row : List Int32) (v_column : List Int32) (v_face : List Int32) (v_worn : List Int32) (H : Heap) (locs : List Loc) (ls : Array Slot), fX9_bendOf_75 N x1 x2 x3 x4 x5 x6 x7 x8 v_columnsOf v_limit v_row v_column v_face v_worn = some r → va_P D mm_cl (wd_X9 cI cL cS cH a v_keptMany v_done v_rowsOf v_columnsOf v_folded v_wronged v_tapeMany v_textMany v_base v_at v_ends v_fault v_opened v_bentMany v_bentWrong v_moreWorn v_planned v_allWrong v_allWorn v_z v_wishedField v_isFound v_bestWrong v_bestWorn v_bestMany v_soughtBy v_sought v_soughtAt v_foundMany v_foundOrder v_isKept v_imageRows v_imageColumns v_imageFolded v_imageWronged v_bodies v_ran v_ownKind v_ownNumber v_limit v_changeWas v_changeIs v_shapeRows v_shapeColumns v_row v_column v_below v_face v_worn v_lastBend v_tape v_text v_names v_bends v_high v_to v_pileSize v_planLine v_planWay v_way1 v_bestWay v_order1 v_placeIn v_bodyKind v_trace v_shelf v_many v_items v_carried) H → va_D A (wd_X9 cI cL cS cH a v_keptMany v_done v_rowsOf v_columnsOf v_folded v_wronged v_tapeMany v_textMany v_base v_at v_ends v_fault v_opened v_bentMany v_bentWrong v_moreWorn v_planned v_allWrong v_allWorn v_z v_wishedField v_isFound v_bestWrong v_bestWorn v_bestMany v_soughtBy v_sought v_soughtAt v_foundMany v_foundOrder v_isKept v_imageRows v_imageColumns v_imageFolded v_imageWronged v_bodies v_ran v_ownKind v_ownNumber v_limit v_changeWas v_changeIs v_shapeRows v_shapeColumns v_row v_column v_below v_face v_worn v_lastBend v_tape v_text v_names v_bends v_high v_to v_pileSize v_planLine v_planWay v_way1 v_bestWay v_order1 v_placeIn v_bodyKind v_trace v_shelf v_many v_items v_carried) → va_S A s.heap H locs → lv_has ls 14 [(0, .ref (a 0)), (1, .int x1), (2, .int x2), (3, .int x3), (4, .int x4), (5, .int x5), (6, .int x6), (7, .int x7), (8, .int x8)] → W p l e (mm_rr d) s m args below meth c H locs 0 0 (mm_Z below D A (wd_X9 cI cL cS cH a v_keptMany v_done v_rowsOf v_columnsOf v_folded v_wronged v_tapeMany v_textMany v_base v_at v_ends v_fault v_opened v_bentMany v_bentWrong v_moreWorn v_planned v_allWrong v_allWorn v_z v_wishedField v_isFound v_bestWrong v_bestWorn v_bestMany v_soughtBy v_sought v_soughtAt v_foundMany v_foundOrder v_isKept v_imageRows v_imageColumns v_imageFolded v_imageWronged v_bodies v_ran v_ownKind v_ownNumber v_limit v_changeWas v_changeIs v_shapeRows v_shapeColumns v_row v_column v_below v_face v_worn v_lastBend v_tape v_text v_names v_bends v_high v_to v_pileSize v_planLine v_planWay v_way1 v_bestWay v_order1 v_placeIn v_bodyKind v_trace v_shelf v_many v_items v_carried) (some (.int r)) args s) (F0 m 75 ls []) := by
  obtain ⟨hx, hb, hml, hown, hts, hr, hlocks, hK, hSt⟩ := id C0
  intro x1 x2 x3 x4 x5 x6 x7 x8 v_columnsOf v_limit v_row v_column v_face v_worn H locs ls hf hP hD hS hl
  unfold fX9_bendOf_75 at hf
  refine lv_iconst (v := 1) hx hb dX9_bendOf_75 (by decide) ?_
  refine lv_goto (tgt := 80) hx hb dX9_bendOf_76 (by decide) ?_
  exact tX9_bendOf_80 hd C0 hA N  _ _ _ _ _ _ _ _ _ _ _ _ _ _ _ H locs ls hf hP hD hS (lv_sub hl [0, 1, 2, 3, 4, 5, 6, 7, 8] rfl)

def fX9_bendOf_79 (N : Nat)  (x1 : Int32) (x2 : Int32) (x3 : Int32) (x4 : Int32) (x5 : Int32) (x6 : Int32) (x7 : Int32) (x8 : Int32) (v_columnsOf : Int32) (v_limit : List Int32) (v_row : List Int32) (v_column : List Int32) (v_face : List Int32) (v_worn : List Int32) : Option (Int32) :=
    fX9_bendOf_80 N x1 x2 x3 x4 x5 x6 x7 x8 (0 : Int32) v_columnsOf v_limit v_row v_column v_face v_worn

set_option maxHeartbeats 4000000 in
set_option maxRecDepth 100000 in
theorem tX9_bendOf_79 {p : Program} {l : Launch} {e : Env} {s : State} {m : MethodId} {args : Array Value} {below : List Frame} {meth : Method} {c : Code} {D : va_G} {cI cL cS cH : ClassId} {A : Nat → Prop} {d : Nat} {a : Nat → Nat} (hd : 2 ≤ d) (C0 : mm_Cx p s m args meth c RX9 cX9_bendOf 14 (some .int) D (mm_T cI cL cS cH) A) (hA : ∀ q, s.heap.size ≤ q → A q) {v_keptMany : Int32} {v_done : Int32} {v_rowsOf : Int32} {v_folded : Int32} {v_wronged : Int32} {v_tapeMany : Int32} {v_textMany : Int32} {v_base : Int32} {v_at : Int32} {v_ends : Int32} {v_fault : Int32} {v_opened : Int32} {v_bentMany : Int32} {v_bentWrong : Int32} {v_moreWorn : Int32} {v_planned : Int32} {v_allWrong : Int32} {v_allWorn : Int32} {v_z : Int32} {v_wishedField : Int32} {v_isFound : Bool} {v_bestWrong : Int32} {v_bestWorn : Int32} {v_bestMany : Int32} {v_soughtBy : Int32} {v_sought : Int32} {v_soughtAt : Int32} {v_foundMany : Int32} {v_foundOrder : Int32} {v_isKept : Bool} {v_imageRows : Int32} {v_imageColumns : Int32} {v_imageFolded : Int32} {v_imageWronged : Int32} {v_bodies : Int32} {v_ran : Int32} {v_ownKind : Int32} {v_ownNumber : Int32} {v_changeWas : List Int32} {v_changeIs : List Int32} {v_shapeRows : List Int32} {v_shapeColumns : List Int32} {v_below : List Int32} {v_lastBend : List Int32} {v_tape : List Int32} {v_text : List Int32} {v_names : List Int32} {v_bends : List Int32} {v_high : List Int32} {v_to : List Int32} {v_pileSize : List Int32} {v_planLine : List Int32} {v_planWay : List Int32} {v_way1 : List Int32} {v_bestWay : List Int32} {v_order1 : List Int32} {v_placeIn : List Int32} {v_bodyKind : List Int32} {v_trace : List Int32} {v_shelf : List Int32} {v_many : List Int32} {v_items : List Int64} {v_carried : List Int64} {r : Int32} (N : Nat)  : ∀ (x1 : Int32) (x2 : Int32) (x3 : Int32) (x4 : Int32) (x5 : Int32) (x6 : Int32) (x7 : Int32) (x8 : Int32) (v_columnsOf : Int32) (v_limit : List Int32) (v_row : List Int32) (v_column : List Int32) (v_face : List Int32) (v_worn : List Int32) (H : Heap) (locs : List Loc) (ls : Array Slot), fX9_bendOf_79 N x1 x2 x3 x4 x5 x6 x7 x8 v_columnsOf v_limit v_row v_column v_face v_worn = some r → va_P D mm_cl (wd_X9 cI cL cS cH a v_keptMany v_done v_rowsOf v_columnsOf v_folded v_wronged v_tapeMany v_textMany v_base v_at v_ends v_fault v_opened v_bentMany v_bentWrong v_moreWorn v_planned v_allWrong v_allWorn v_z v_wishedField v_isFound v_bestWrong v_bestWorn v_bestMany v_soughtBy v_sought v_soughtAt v_foundMany v_foundOrder v_isKept v_imageRows v_imageColumns v_imageFolded v_imageWronged v_bodies v_ran v_ownKind v_ownNumber v_limit v_changeWas v_changeIs v_shapeRows v_shapeColumns v_row v_column v_below v_face v_worn v_lastBend v_tape v_text v_names v_bends v_high v_to v_pileSize v_planLine v_planWay v_way1 v_bestWay v_order1 v_placeIn v_bodyKind v_trace v_shelf v_many v_items v_carried) H → va_D A (wd_X9 cI cL cS cH a v_keptMany v_done v_rowsOf v_columnsOf v_folded v_wronged v_tapeMany v_textMany v_base v_at v_ends v_fault v_opened v_bentMany v_bentWrong v_moreWorn v_planned v_allWrong v_allWorn v_z v_wishedField v_isFound v_bestWrong v_bestWorn v_bestMany v_soughtBy v_sought v_soughtAt v_foundMany v_foundOrder v_isKept v_imageRows v_imageColumns v_imageFolded v_imageWronged v_bodies v_ran v_ownKind v_ownNumber v_limit v_changeWas v_changeIs v_shapeRows v_shapeColumns v_row v_column v_below v_face v_worn v_lastBend v_tape v_text v_names v_bends v_high v_to v_pileSize v_planLine v_planWay v_way1 v_bestWay v_order1 v_placeIn v_bodyKind v_trace v_shelf v_many v_items v_carried) → va_S A s.heap H locs → lv_has ls 14 [(0, .ref (a 0)), (1, .int x1), (2, .int x2), (3, .int x3), (4, .int x4), (5, .int x5), (6, .int x6), (7, .int x7), (8, .int x8)] → W p l e (mm_rr d) s m args below meth c H locs 0 0 (mm_Z below D A (wd_X9 cI cL cS cH a v_keptMany v_done v_rowsOf v_columnsOf v_folded v_wronged v_tapeMany v_textMany v_base v_at v_ends v_fault v_opened v_bentMany v_bentWrong v_moreWorn v_planned v_allWrong v_allWorn v_z v_wishedField v_isFound v_bestWrong v_bestWorn v_bestMany v_soughtBy v_sought v_soughtAt v_foundMany v_foundOrder v_isKept v_imageRows v_imageColumns v_imageFolded v_imageWronged v_bodies v_ran v_ownKind v_ownNumber v_limit v_changeWas v_changeIs v_shapeRows v_shapeColumns v_row v_column v_below v_face v_worn v_lastBend v_tape v_text v_names v_bends v_high v_to v_pileSize v_planLine v_planWay v_way1 v_bestWay v_order1 v_placeIn v_bodyKind v_trace v_shelf v_many v_items v_carried) (some (.int r)) args s) (F0 m 79 ls []) := by
  obtain ⟨hx, hb, hml, hown, hts, hr, hlocks, hK, hSt⟩ := id C0
  intro x1 x2 x3 x4 x5 x6 x7 x8 v_columnsOf v_limit v_row v_column v_face v_worn H locs ls hf hP hD hS hl
  unfold fX9_bendOf_79 at hf
  refine lv_iconst (v := 0) hx hb dX9_bendOf_79 (by decide) ?_
  exact tX9_bendOf_80 hd C0 hA N  _ _ _ _ _ _ _ _ _ _ _ _ _ _ _ H locs ls hf hP hD hS (lv_sub hl [0, 1, 2, 3, 4, 5, 6, 7, 8] rfl)

def fX9_bendOf_61 (N : Nat)  (x1 : Int32) (x2 : Int32) (x3 : Int32) (x4 : Int32) (x5 : Int32) (x6 : Int32) (x7 : Int32) (x8 : Int32) (x9 : Int32) (v_columnsOf : Int32) (v_limit : List Int32) (v_row : List Int32) (v_column : List Int32) (v_face : List Int32) (v_worn : List Int32) : Option (Int32) :=
    if x8 = x3 then
    (if x9 = (x3 - (1 : Int32)) then
    (fX9_bendOf_75 N x1 x2 x3 x4 x5 x6 x7 x8 v_columnsOf v_limit v_row v_column v_face v_worn)
    else (fX9_bendOf_79 N x1 x2 x3 x4 x5 x6 x7 x8 v_columnsOf v_limit v_row v_column v_face v_worn))
    else (fX9_bendOf_79 N x1 x2 x3 x4 x5 x6 x7 x8 v_columnsOf v_limit v_row v_column v_face v_worn)

set_option maxHeartbeats 4000000 in
set_option maxRecDepth 100000 in
theorem tX9_bendOf_61 {p : Program} {l : Launch} {e : Env} {s : State} {m : MethodId} {args : Array Value} {below : List Frame} {meth : Method} {c : Code} {D : va_G} {cI cL cS cH : ClassId} {A : Nat → Prop} {d : Nat} {a : Nat → Nat} (hd : 2 ≤ d) (C0 : mm_Cx p s m args meth c RX9 cX9_bendOf 14 (some .int) D (mm_T cI cL cS cH) A) (hA : ∀ q, s.heap.size ≤ q → A q) {v_keptMany : Int32} {v_done : Int32} {v_rowsOf : Int32} {v_folded : Int32} {v_wronged : Int32} {v_tapeMany : Int32} {v_textMany : Int32} {v_base : Int32} {v_at : Int32} {v_ends : Int32} {v_fault : Int32} {v_opened : Int32} {v_bentMany : Int32} {v_bentWrong : Int32} {v_moreWorn : Int32} {v_planned : Int32} {v_allWrong : Int32} {v_allWorn : Int32} {v_z : Int32} {v_wishedField : Int32} {v_isFound : Bool} {v_bestWrong : Int32} {v_bestWorn : Int32} {v_bestMany : Int32} {v_soughtBy : Int32} {v_sought : Int32} {v_soughtAt : Int32} {v_foundMany : Int32} {v_foundOrder : Int32} {v_isKept : Bool} {v_imageRows : Int32} {v_imageColumns : Int32} {v_imageFolded : Int32} {v_imageWronged : Int32} {v_bodies : Int32} {v_ran : Int32} {v_ownKind : Int32} {v_ownNumber : Int32} {v_changeWas : List Int32} {v_changeIs : List Int32} {v_shapeRows : List Int32} {v_shapeColumns : List Int32} {v_below : List Int32} {v_lastBend : List Int32} {v_tape : List Int32} {v_text : List Int32} {v_names : List Int32} {v_bends : List Int32} {v_high : List Int32} {v_to : List Int32} {v_pileSize : List Int32} {v_planLine : List Int32} {v_planWay : List Int32} {v_way1 : List Int32} {v_bestWay : List Int32} {v_order1 : List Int32} {v_placeIn : List Int32} {v_bodyKind : List Int32} {v_trace : List Int32} {v_shelf : List Int32} {v_many : List Int32} {v_items : List Int64} {v_carried : List Int64} {r : Int32} (N : Nat)  : ∀ (x1 : Int32) (x2 : Int32) (x3 : Int32) (x4 : Int32) (x5 : Int32) (x6 : Int32) (x7 : Int32) (x8 : Int32) (x9 : Int32) (v_columnsOf : Int32) (v_limit : List Int32) (v_row : List Int32) (v_column : List Int32) (v_face : List Int32) (v_worn : List Int32) (H : Heap) (locs : List Loc) (ls : Array Slot), fX9_bendOf_61 N x1 x2 x3 x4 x5 x6 x7 x8 x9 v_columnsOf v_limit v_row v_column v_face v_worn = some r → va_P D mm_cl (wd_X9 cI cL cS cH a v_keptMany v_done v_rowsOf v_columnsOf v_folded v_wronged v_tapeMany v_textMany v_base v_at v_ends v_fault v_opened v_bentMany v_bentWrong v_moreWorn v_planned v_allWrong v_allWorn v_z v_wishedField v_isFound v_bestWrong v_bestWorn v_bestMany v_soughtBy v_sought v_soughtAt v_foundMany v_foundOrder v_isKept v_imageRows v_imageColumns v_imageFolded v_imageWronged v_bodies v_ran v_ownKind v_ownNumber v_limit v_changeWas v_changeIs v_shapeRows v_shapeColumns v_row v_column v_below v_face v_worn v_lastBend v_tape v_text v_names v_bends v_high v_to v_pileSize v_planLine v_planWay v_way1 v_bestWay v_order1 v_placeIn v_bodyKind v_trace v_shelf v_many v_items v_carried) H → va_D A (wd_X9 cI cL cS cH a v_keptMany v_done v_rowsOf v_columnsOf v_folded v_wronged v_tapeMany v_textMany v_base v_at v_ends v_fault v_opened v_bentMany v_bentWrong v_moreWorn v_planned v_allWrong v_allWorn v_z v_wishedField v_isFound v_bestWrong v_bestWorn v_bestMany v_soughtBy v_sought v_soughtAt v_foundMany v_foundOrder v_isKept v_imageRows v_imageColumns v_imageFolded v_imageWronged v_bodies v_ran v_ownKind v_ownNumber v_limit v_changeWas v_changeIs v_shapeRows v_shapeColumns v_row v_column v_below v_face v_worn v_lastBend v_tape v_text v_names v_bends v_high v_to v_pileSize v_planLine v_planWay v_way1 v_bestWay v_order1 v_placeIn v_bodyKind v_trace v_shelf v_many v_items v_carried) → va_S A s.heap H locs → lv_has ls 14 [(0, .ref (a 0)), (1, .int x1), (2, .int x2), (3, .int x3), (4, .int x4), (5, .int x5), (6, .int x6), (7, .int x7), (8, .int x8), (9, .int x9)] → W p l e (mm_rr d) s m args below meth c H locs 0 0 (mm_Z below D A (wd_X9 cI cL cS cH a v_keptMany v_done v_rowsOf v_columnsOf v_folded v_wronged v_tapeMany v_textMany v_base v_at v_ends v_fault v_opened v_bentMany v_bentWrong v_moreWorn v_planned v_allWrong v_allWorn v_z v_wishedField v_isFound v_bestWrong v_bestWorn v_bestMany v_soughtBy v_sought v_soughtAt v_foundMany v_foundOrder v_isKept v_imageRows v_imageColumns v_imageFolded v_imageWronged v_bodies v_ran v_ownKind v_ownNumber v_limit v_changeWas v_changeIs v_shapeRows v_shapeColumns v_row v_column v_below v_face v_worn v_lastBend v_tape v_text v_names v_bends v_high v_to v_pileSize v_planLine v_planWay v_way1 v_bestWay v_order1 v_placeIn v_bodyKind v_trace v_shelf v_many v_items v_carried) (some (.int r)) args s) (F0 m 61 ls []) := by
  obtain ⟨hx, hb, hml, hown, hts, hr, hlocks, hK, hSt⟩ := id C0
  intro x1 x2 x3 x4 x5 x6 x7 x8 x9 v_columnsOf v_limit v_row v_column v_face v_worn H locs ls hf hP hD hS hl
  unfold fX9_bendOf_61 at hf
  refine lv_iload hx hb dX9_bendOf_61 (lv_at hl 8 rfl) ?_
  refine lv_iload_n hx hb dX9_bendOf_63 rfl (lv_at hl 3 rfl) ?_
  refine lv_icmp_ne (tgt := 79) hx hb dX9_bendOf_64 (by decide) (fun c_32 => ?_) (fun c_32 => ?_)
  · have hf := mm_in hf c_32
    exact tX9_bendOf_79 hd C0 hA N  _ _ _ _ _ _ _ _ _ _ _ _ _ _ H locs ls hf hP hD hS (lv_sub hl [0, 1, 2, 3, 4, 5, 6, 7, 8] rfl)
  · have hf := mm_ip hf c_32
    refine lv_iload hx hb dX9_bendOf_67 (lv_at hl 9 rfl) ?_
    refine lv_iload_n hx hb dX9_bendOf_69 rfl (lv_at hl 3 rfl) ?_
    refine lv_iconst (v := 1) hx hb dX9_bendOf_70 (by decide) ?_
    refine lv_isub hx hb dX9_bendOf_71 ?_
    refine lv_icmp_ne (tgt := 79) hx hb dX9_bendOf_72 (by decide) (fun c_33 => ?_) (fun c_33 => ?_)
    · have hf := mm_in hf c_33
      exact tX9_bendOf_79 hd C0 hA N  _ _ _ _ _ _ _ _ _ _ _ _ _ _ H locs ls hf hP hD hS (lv_sub hl [0, 1, 2, 3, 4, 5, 6, 7, 8] rfl)
    · have hf := mm_ip hf c_33
      exact tX9_bendOf_75 hd C0 hA N  _ _ _ _ _ _ _ _ _ _ _ _ _ _ H locs ls hf hP hD hS (lv_sub hl [0, 1, 2, 3, 4, 5, 6, 7, 8] rfl)

def fX9_bendOf_23 (N : Nat)  (x1 : Int32) (x2 : Int32) (x3 : Int32) (x4 : Int32) (x5 : Int32) (x6 : Int32) (s0 : Int32) (v_columnsOf : Int32) (v_limit : List Int32) (v_row : List Int32) (v_column : List Int32) (v_face : List Int32) (v_worn : List Int32) : Option (Int32) :=
    mm_bd1 (fX9_placeOf N x1 x5 s0 v_row v_column) (fun (r_6 : Int32) =>
    mm_bd1 (fX9_placeOf N x1 x6 s0 v_row v_column) (fun (r_8 : Int32) =>
    if r_6 = (x3 - (1 : Int32)) then
    (if r_8 = x3 then
    (fX9_bendOf_75 N x1 x2 x3 x4 x5 x6 s0 r_6 v_columnsOf v_limit v_row v_column v_face v_worn)
    else (fX9_bendOf_61 N x1 x2 x3 x4 x5 x6 s0 r_6 r_8 v_columnsOf v_limit v_row v_column v_face v_worn))
    else (fX9_bendOf_61 N x1 x2 x3 x4 x5 x6 s0 r_6 r_8 v_columnsOf v_limit v_row v_column v_face v_worn)))

set_option maxHeartbeats 4000000 in
set_option maxRecDepth 100000 in
theorem tX9_bendOf_23 {p : Program} {l : Launch} {e : Env} {s : State} {m : MethodId} {args : Array Value} {below : List Frame} {meth : Method} {c : Code} {D : va_G} {cI cL cS cH : ClassId} {A : Nat → Prop} {d : Nat} {a : Nat → Nat} (hd : 2 ≤ d) (C0 : mm_Cx p s m args meth c RX9 cX9_bendOf 14 (some .int) D (mm_T cI cL cS cH) A) (hA : ∀ q, s.heap.size ≤ q → A q) {v_keptMany : Int32} {v_done : Int32} {v_rowsOf : Int32} {v_folded : Int32} {v_wronged : Int32} {v_tapeMany : Int32} {v_textMany : Int32} {v_base : Int32} {v_at : Int32} {v_ends : Int32} {v_fault : Int32} {v_opened : Int32} {v_bentMany : Int32} {v_bentWrong : Int32} {v_moreWorn : Int32} {v_planned : Int32} {v_allWrong : Int32} {v_allWorn : Int32} {v_z : Int32} {v_wishedField : Int32} {v_isFound : Bool} {v_bestWrong : Int32} {v_bestWorn : Int32} {v_bestMany : Int32} {v_soughtBy : Int32} {v_sought : Int32} {v_soughtAt : Int32} {v_foundMany : Int32} {v_foundOrder : Int32} {v_isKept : Bool} {v_imageRows : Int32} {v_imageColumns : Int32} {v_imageFolded : Int32} {v_imageWronged : Int32} {v_bodies : Int32} {v_ran : Int32} {v_ownKind : Int32} {v_ownNumber : Int32} {v_changeWas : List Int32} {v_changeIs : List Int32} {v_shapeRows : List Int32} {v_shapeColumns : List Int32} {v_below : List Int32} {v_lastBend : List Int32} {v_tape : List Int32} {v_text : List Int32} {v_names : List Int32} {v_bends : List Int32} {v_high : List Int32} {v_to : List Int32} {v_pileSize : List Int32} {v_planLine : List Int32} {v_planWay : List Int32} {v_way1 : List Int32} {v_bestWay : List Int32} {v_order1 : List Int32} {v_placeIn : List Int32} {v_bodyKind : List Int32} {v_trace : List Int32} {v_shelf : List Int32} {v_many : List Int32} {v_items : List Int64} {v_carried : List Int64} {r : Int32} (N : Nat)  : ∀ (x1 : Int32) (x2 : Int32) (x3 : Int32) (x4 : Int32) (x5 : Int32) (x6 : Int32) (s0 : Int32) (v_columnsOf : Int32) (v_limit : List Int32) (v_row : List Int32) (v_column : List Int32) (v_face : List Int32) (v_worn : List Int32) (H : Heap) (locs : List Loc) (ls : Array Slot), fX9_bendOf_23 N x1 x2 x3 x4 x5 x6 s0 v_columnsOf v_limit v_row v_column v_face v_worn = some r → va_P D mm_cl (wd_X9 cI cL cS cH a v_keptMany v_done v_rowsOf v_columnsOf v_folded v_wronged v_tapeMany v_textMany v_base v_at v_ends v_fault v_opened v_bentMany v_bentWrong v_moreWorn v_planned v_allWrong v_allWorn v_z v_wishedField v_isFound v_bestWrong v_bestWorn v_bestMany v_soughtBy v_sought v_soughtAt v_foundMany v_foundOrder v_isKept v_imageRows v_imageColumns v_imageFolded v_imageWronged v_bodies v_ran v_ownKind v_ownNumber v_limit v_changeWas v_changeIs v_shapeRows v_shapeColumns v_row v_column v_below v_face v_worn v_lastBend v_tape v_text v_names v_bends v_high v_to v_pileSize v_planLine v_planWay v_way1 v_bestWay v_order1 v_placeIn v_bodyKind v_trace v_shelf v_many v_items v_carried) H → va_D A (wd_X9 cI cL cS cH a v_keptMany v_done v_rowsOf v_columnsOf v_folded v_wronged v_tapeMany v_textMany v_base v_at v_ends v_fault v_opened v_bentMany v_bentWrong v_moreWorn v_planned v_allWrong v_allWorn v_z v_wishedField v_isFound v_bestWrong v_bestWorn v_bestMany v_soughtBy v_sought v_soughtAt v_foundMany v_foundOrder v_isKept v_imageRows v_imageColumns v_imageFolded v_imageWronged v_bodies v_ran v_ownKind v_ownNumber v_limit v_changeWas v_changeIs v_shapeRows v_shapeColumns v_row v_column v_below v_face v_worn v_lastBend v_tape v_text v_names v_bends v_high v_to v_pileSize v_planLine v_planWay v_way1 v_bestWay v_order1 v_placeIn v_bodyKind v_trace v_shelf v_many v_items v_carried) → va_S A s.heap H locs → lv_has ls 14 [(0, .ref (a 0)), (1, .int x1), (2, .int x2), (3, .int x3), (4, .int x4), (5, .int x5), (6, .int x6)] → W p l e (mm_rr d) s m args below meth c H locs 0 0 (mm_Z below D A (wd_X9 cI cL cS cH a v_keptMany v_done v_rowsOf v_columnsOf v_folded v_wronged v_tapeMany v_textMany v_base v_at v_ends v_fault v_opened v_bentMany v_bentWrong v_moreWorn v_planned v_allWrong v_allWorn v_z v_wishedField v_isFound v_bestWrong v_bestWorn v_bestMany v_soughtBy v_sought v_soughtAt v_foundMany v_foundOrder v_isKept v_imageRows v_imageColumns v_imageFolded v_imageWronged v_bodies v_ran v_ownKind v_ownNumber v_limit v_changeWas v_changeIs v_shapeRows v_shapeColumns v_row v_column v_below v_face v_worn v_lastBend v_tape v_text v_names v_bends v_high v_to v_pileSize v_planLine v_planWay v_way1 v_bestWay v_order1 v_placeIn v_bodyKind v_trace v_shelf v_many v_items v_carried) (some (.int r)) args s) (F0 m 23 ls [.int s0]) := by
  obtain ⟨hx, hb, hml, hown, hts, hr, hlocks, hK, hSt⟩ := id C0
  intro x1 x2 x3 x4 x5 x6 s0 v_columnsOf v_limit v_row v_column v_face v_worn H locs ls hf hP hD hS hl
  unfold fX9_bendOf_23 at hf
  refine lv_istore (lv' := [(7, .int s0), (0, .ref (a 0)), (1, .int x1), (2, .int x2), (3, .int x3), (4, .int x4), (5, .int x5), (6, .int x6)]) hx hb dX9_bendOf_23 hl (by decide) rfl (fun ls hl => ?_)
  refine lv_aload_n hx hb dX9_bendOf_25 rfl (lv_at hl 1 rfl) ?_
  refine lv_iload_n hx hb dX9_bendOf_26 rfl (lv_at hl 2 rfl) ?_
  refine lv_iload hx hb dX9_bendOf_27 (lv_at hl 6 rfl) ?_
  refine lv_iload hx hb dX9_bendOf_29 (lv_at hl 0 rfl) ?_
  obtain ⟨r_6, hc_7, hf⟩ := mm_bd1s hf
  refine mm_callVF (q0 := 0) (ci := 9) (rest := []) C0 lk_X9_204 (ctX9_placeOf (a := a) (d := d - 1) (by omega) hc_7) (by omega) rfl hl.1 rfl (mm_cat rfl) dX9_bendOf_31 hP hD hA hS rfl rfl (fun H locs hP hD hS => ?_)
  refine W.eq (g2 := F0 m 34 ls [.int r_6]) rfl ?_
  refine lv_istore (lv' := [(8, .int r_6), (7, .int s0), (0, .ref (a 0)), (1, .int x1), (2, .int x2), (3, .int x3), (4, .int x4), (5, .int x5), (6, .int x6)]) hx hb dX9_bendOf_34 hl (by decide) rfl (fun ls hl => ?_)
  refine lv_aload_n hx hb dX9_bendOf_36 rfl (lv_at hl 2 rfl) ?_
  refine lv_iload_n hx hb dX9_bendOf_37 rfl (lv_at hl 3 rfl) ?_
  refine lv_iload hx hb dX9_bendOf_38 (lv_at hl 8 rfl) ?_
  refine lv_iload hx hb dX9_bendOf_40 (lv_at hl 1 rfl) ?_
  obtain ⟨r_8, hc_9, hf⟩ := mm_bd1s hf
  refine mm_callVF (q0 := 0) (ci := 9) (rest := []) C0 lk_X9_204 (ctX9_placeOf (a := a) (d := d - 1) (by omega) hc_9) (by omega) rfl hl.1 rfl (mm_cat rfl) dX9_bendOf_42 hP hD hA hS rfl rfl (fun H locs hP hD hS => ?_)
  refine W.eq (g2 := F0 m 45 ls [.int r_8]) rfl ?_
  refine lv_istore (lv' := [(9, .int r_8), (8, .int r_6), (7, .int s0), (0, .ref (a 0)), (1, .int x1), (2, .int x2), (3, .int x3), (4, .int x4), (5, .int x5), (6, .int x6)]) hx hb dX9_bendOf_45 hl (by decide) rfl (fun ls hl => ?_)
  refine lv_iload hx hb dX9_bendOf_47 (lv_at hl 1 rfl) ?_
  refine lv_iload_n hx hb dX9_bendOf_49 rfl (lv_at hl 6 rfl) ?_
  refine lv_iconst (v := 1) hx hb dX9_bendOf_50 (by decide) ?_
  refine lv_isub hx hb dX9_bendOf_51 ?_
  refine lv_icmp_ne (tgt := 61) hx hb dX9_bendOf_52 (by decide) (fun c_10 => ?_) (fun c_10 => ?_)
  · have hf := mm_in hf c_10
    exact tX9_bendOf_61 hd C0 hA N  _ _ _ _ _ _ _ _ _ _ _ _ _ _ _ H locs ls hf hP hD hS (lv_sub hl [3, 4, 5, 6, 7, 8, 9, 2, 1, 0] rfl)
  · have hf := mm_ip hf c_10
    refine lv_iload hx hb dX9_bendOf_55 (lv_at hl 0 rfl) ?_
    refine lv_iload_n hx hb dX9_bendOf_57 rfl (lv_at hl 6 rfl) ?_
    refine lv_icmp_eq (tgt := 75) hx hb dX9_bendOf_58 (by decide) (fun c_11 => ?_) (fun c_11 => ?_)
    · have hf := mm_ip hf c_11
      exact tX9_bendOf_75 hd C0 hA N  _ _ _ _ _ _ _ _ _ _ _ _ _ _ H locs ls hf hP hD hS (lv_sub hl [3, 4, 5, 6, 7, 8, 9, 2, 1] rfl)
    · have hf := mm_in hf c_11
      exact tX9_bendOf_61 hd C0 hA N  _ _ _ _ _ _ _ _ _ _ _ _ _ _ _ H locs ls hf hP hD hS (lv_sub hl [3, 4, 5, 6, 7, 8, 9, 2, 1, 0] rfl)

def fX9_bendOf (N : Nat) (x1 : Int32) (x2 : Int32) (x3 : Int32) (x4 : Int32) (v_columnsOf : Int32) (v_limit : List Int32) (v_row : List Int32) (v_column : List Int32) (v_face : List Int32) (v_worn : List Int32) : Option (Int32) :=
    mm_ck (mm_nz (2 : Int32)) (mm_nm ((x2 / (2 : Int32))) (fun (y_2 : Int32) =>
    mm_bd1 (fX9_otherOf N x2 v_columnsOf) (fun (r_3 : Int32) =>
    if (4 : Int32) ≤ x4 then
    (fX9_bendOf_23 N x1 x2 x3 x4 y_2 r_3 (0 : Int32) v_columnsOf v_limit v_row v_column v_face v_worn)
    else (fX9_bendOf_23 N x1 x2 x3 x4 y_2 r_3 (1 : Int32) v_columnsOf v_limit v_row v_column v_face v_worn))))

set_option maxHeartbeats 4000000 in
set_option maxRecDepth 100000 in
theorem ctX9_bendOf {l : Launch} {D : va_G} {cI cL cS cH : ClassId} {a : Nat → Nat} {x1 : Int32} {x2 : Int32} {x3 : Int32} {x4 : Int32} {v_keptMany : Int32} {v_done : Int32} {v_rowsOf : Int32} {v_columnsOf : Int32} {v_folded : Int32} {v_wronged : Int32} {v_tapeMany : Int32} {v_textMany : Int32} {v_base : Int32} {v_at : Int32} {v_ends : Int32} {v_fault : Int32} {v_opened : Int32} {v_bentMany : Int32} {v_bentWrong : Int32} {v_moreWorn : Int32} {v_planned : Int32} {v_allWrong : Int32} {v_allWorn : Int32} {v_z : Int32} {v_wishedField : Int32} {v_isFound : Bool} {v_bestWrong : Int32} {v_bestWorn : Int32} {v_bestMany : Int32} {v_soughtBy : Int32} {v_sought : Int32} {v_soughtAt : Int32} {v_foundMany : Int32} {v_foundOrder : Int32} {v_isKept : Bool} {v_imageRows : Int32} {v_imageColumns : Int32} {v_imageFolded : Int32} {v_imageWronged : Int32} {v_bodies : Int32} {v_ran : Int32} {v_ownKind : Int32} {v_ownNumber : Int32} {v_limit : List Int32} {v_changeWas : List Int32} {v_changeIs : List Int32} {v_shapeRows : List Int32} {v_shapeColumns : List Int32} {v_row : List Int32} {v_column : List Int32} {v_below : List Int32} {v_face : List Int32} {v_worn : List Int32} {v_lastBend : List Int32} {v_tape : List Int32} {v_text : List Int32} {v_names : List Int32} {v_bends : List Int32} {v_high : List Int32} {v_to : List Int32} {v_pileSize : List Int32} {v_planLine : List Int32} {v_planWay : List Int32} {v_way1 : List Int32} {v_bestWay : List Int32} {v_order1 : List Int32} {v_placeIn : List Int32} {v_bodyKind : List Int32} {v_trace : List Int32} {v_shelf : List Int32} {v_many : List Int32} {v_items : List Int64} {v_carried : List Int64} {r : Int32} {N d : Nat} (hd : 2 ≤ d) (hf : fX9_bendOf N x1 x2 x3 x4 v_columnsOf v_limit v_row v_column v_face v_worn = some r) : mm_Ct l yX9_bendOf cX9_bendOf 14 (some .int) d D (mm_T cI cL cS cH) [.ref (a 0), .int x1, .int x2, .int x3, .int x4] (wd_X9 cI cL cS cH a v_keptMany v_done v_rowsOf v_columnsOf v_folded v_wronged v_tapeMany v_textMany v_base v_at v_ends v_fault v_opened v_bentMany v_bentWrong v_moreWorn v_planned v_allWrong v_allWorn v_z v_wishedField v_isFound v_bestWrong v_bestWorn v_bestMany v_soughtBy v_sought v_soughtAt v_foundMany v_foundOrder v_isKept v_imageRows v_imageColumns v_imageFolded v_imageWronged v_bodies v_ran v_ownKind v_ownNumber v_limit v_changeWas v_changeIs v_shapeRows v_shapeColumns v_row v_column v_below v_face v_worn v_lastBend v_tape v_text v_names v_bends v_high v_to v_pileSize v_planLine v_planWay v_way1 v_bestWay v_order1 v_placeIn v_bodyKind v_trace v_shelf v_many v_items v_carried) (wd_X9 cI cL cS cH a v_keptMany v_done v_rowsOf v_columnsOf v_folded v_wronged v_tapeMany v_textMany v_base v_at v_ends v_fault v_opened v_bentMany v_bentWrong v_moreWorn v_planned v_allWrong v_allWorn v_z v_wishedField v_isFound v_bestWrong v_bestWorn v_bestMany v_soughtBy v_sought v_soughtAt v_foundMany v_foundOrder v_isKept v_imageRows v_imageColumns v_imageFolded v_imageWronged v_bodies v_ran v_ownKind v_ownNumber v_limit v_changeWas v_changeIs v_shapeRows v_shapeColumns v_row v_column v_below v_face v_worn v_lastBend v_tape v_text v_names v_bends v_high v_to v_pileSize v_planLine v_planWay v_way1 v_bestWay v_order1 v_placeIn v_bodyKind v_trace v_shelf v_many v_items v_carried) (some (.int r)) := by
  refine mm_of (by decide) (Nat.le_of_ble_eq_true rfl) ?_
  intro p e s m args below meth c A H locs ls C0 hP hD hA hS hl
  have C0 : mm_Cx p s m args meth c RX9 cX9_bendOf 14 (some .int) D (mm_T cI cL cS cH) A := C0
  obtain ⟨hx, hb, hml, hown, hts, hr, hlocks, hK, hSt⟩ := id C0
  have hl : lv_has ls 14 [(0, .ref (a 0)), (1, .int x1), (2, .int x2), (3, .int x3), (4, .int x4)] := hl
  unfold fX9_bendOf at hf
  refine lv_iload_n hx hb dX9_bendOf_0 rfl (lv_at hl 2 rfl) ?_
  refine lv_iconst (v := 2) hx hb dX9_bendOf_1 (by decide) ?_
  obtain ⟨h_1, hf⟩ := mm_cks hf
  refine lv_idiv hx hb dX9_bendOf_2 (mm_nzs h_1) ?_
  refine lv_topi (fun y_2 ey_2 => ?_)
  have hf := mm_nms hf ey_2
  refine lv_istore (lv' := [(5, .int y_2), (0, .ref (a 0)), (1, .int x1), (2, .int x2), (3, .int x3), (4, .int x4)]) hx hb dX9_bendOf_3 hl (by decide) rfl (fun ls hl => ?_)
  refine lv_aload_n hx hb dX9_bendOf_5 rfl (lv_at hl 1 rfl) ?_
  refine lv_iload_n hx hb dX9_bendOf_6 rfl (lv_at hl 3 rfl) ?_
  obtain ⟨r_3, hc_4, hf⟩ := mm_bd1s hf
  refine mm_callVF (q0 := 0) (ci := 9) (rest := []) C0 lk_X9_201 (ctX9_otherOf (a := a) (d := d - 1) (by omega) hc_4) (by omega) rfl hl.1 rfl (mm_cat rfl) dX9_bendOf_7 hP hD hA hS rfl rfl (fun H locs hP hD hS => ?_)
  refine W.eq (g2 := F0 m 10 ls [.int r_3]) rfl ?_
  refine lv_istore (lv' := [(6, .int r_3), (5, .int y_2), (0, .ref (a 0)), (1, .int x1), (2, .int x2), (3, .int x3), (4, .int x4)]) hx hb dX9_bendOf_10 hl (by decide) rfl (fun ls hl => ?_)
  refine lv_iload hx hb dX9_bendOf_12 (lv_at hl 6 rfl) ?_
  refine lv_iconst (v := 4) hx hb dX9_bendOf_14 (by decide) ?_
  refine lv_icmp_ge (tgt := 22) hx hb dX9_bendOf_15 (by decide) (fun c_5 => ?_) (fun c_5 => ?_)
  · have hf := mm_ip hf c_5
    refine lv_iconst (v := 0) hx hb dX9_bendOf_22 (by decide) ?_
    exact tX9_bendOf_23 hd C0 hA N  _ _ _ _ _ _ _ _ _ _ _ _ _ H locs ls hf hP hD hS (lv_sub hl [2, 3, 4, 5, 6, 1, 0] rfl)
  · have hf := mm_in hf c_5
    refine lv_iconst (v := 1) hx hb dX9_bendOf_18 (by decide) ?_
    refine lv_goto (tgt := 23) hx hb dX9_bendOf_19 (by decide) ?_
    exact tX9_bendOf_23 hd C0 hA N  _ _ _ _ _ _ _ _ _ _ _ _ _ H locs ls hf hP hD hS (lv_sub hl [2, 3, 4, 5, 6, 1, 0] rfl)
end
section
/-! reference: X9_bendsAll, X9_pileAt -/
theorem nb_dX9_bendsAll_0 : bls_w cX9_bendsAll [(0, [42]), (1, [3]), (2, [181, 0, 208]), (5, [42]), (6, [3]), (7, [181, 0, 211]), (10, [42]), (11, [3]), (12, [181, 0, 214]), (15, [3]), (16, [54, 4]), (18, [21, 4])] := bls_of (by decide +kernel)
theorem dX9_bendsAll_0 : decode cX9_bendsAll 0 = .ok (.aload_n 0, 1) := op_42 nb_dX9_bendsAll_0.1
theorem dX9_bendsAll_1 : decode cX9_bendsAll 1 = .ok (.iconst 0, 1) := op_3 nb_dX9_bendsAll_0.2.1
set_option maxRecDepth 100000 in
theorem dX9_bendsAll_2 : decode cX9_bendsAll 2 = .ok (.putfield 208, 3) := (op_181 nb_dX9_bendsAll_0.2.2.1).trans rfl
theorem dX9_bendsAll_5 : decode cX9_bendsAll 5 = .ok (.aload_n 0, 1) := op_42 nb_dX9_bendsAll_0.2.2.2.1
theorem dX9_bendsAll_6 : decode cX9_bendsAll 6 = .ok (.iconst 0, 1) := op_3 nb_dX9_bendsAll_0.2.2.2.2.1
set_option maxRecDepth 100000 in
theorem dX9_bendsAll_7 : decode cX9_bendsAll 7 = .ok (.putfield 211, 3) := (op_181 nb_dX9_bendsAll_0.2.2.2.2.2.1).trans rfl
theorem dX9_bendsAll_10 : decode cX9_bendsAll 10 = .ok (.aload_n 0, 1) := op_42 nb_dX9_bendsAll_0.2.2.2.2.2.2.1
theorem dX9_bendsAll_11 : decode cX9_bendsAll 11 = .ok (.iconst 0, 1) := op_3 nb_dX9_bendsAll_0.2.2.2.2.2.2.2.1
set_option maxRecDepth 100000 in
theorem dX9_bendsAll_12 : decode cX9_bendsAll 12 = .ok (.putfield 214, 3) := (op_181 nb_dX9_bendsAll_0.2.2.2.2.2.2.2.2.1).trans rfl
theorem dX9_bendsAll_15 : decode cX9_bendsAll 15 = .ok (.iconst 0, 1) := op_3 nb_dX9_bendsAll_0.2.2.2.2.2.2.2.2.2.1
set_option maxRecDepth 100000 in
theorem dX9_bendsAll_16 : decode cX9_bendsAll 16 = .ok (.istore 4, 2) := (op_54 nb_dX9_bendsAll_0.2.2.2.2.2.2.2.2.2.2.1).trans rfl
set_option maxRecDepth 100000 in
theorem dX9_bendsAll_18 : decode cX9_bendsAll 18 = .ok (.iload 4, 2) := (op_21 nb_dX9_bendsAll_0.2.2.2.2.2.2.2.2.2.2.2.1).trans rfl
theorem nb_dX9_bendsAll_20 : bls_w cX9_bendsAll [(20, [16, 64]), (22, [162, 0, 62]), (25, [42]), (26, [180, 0, 52]), (29, [21, 4]), (31, [42]), (32, [21, 4]), (34, [182, 0, 217]), (37, [153, 0, 15]), (40, [42]), (41, [27]), (42, [21, 4])] := bls_of (by decide +kernel)
set_option maxRecDepth 100000 in
theorem dX9_bendsAll_20 : decode cX9_bendsAll 20 = .ok (.bipush 64, 2) := (op_16 nb_dX9_bendsAll_20.1).trans rfl
set_option maxRecDepth 100000 in
theorem dX9_bendsAll_22 : decode cX9_bendsAll 22 = .ok (.if_icmp .ge 62, 3) := (op_162 nb_dX9_bendsAll_20.2.1).trans rfl
theorem dX9_bendsAll_25 : decode cX9_bendsAll 25 = .ok (.aload_n 0, 1) := op_42 nb_dX9_bendsAll_20.2.2.1
set_option maxRecDepth 100000 in
theorem dX9_bendsAll_26 : decode cX9_bendsAll 26 = .ok (.getfield 52, 3) := (op_180 nb_dX9_bendsAll_20.2.2.2.1).trans rfl
set_option maxRecDepth 100000 in
theorem dX9_bendsAll_29 : decode cX9_bendsAll 29 = .ok (.iload 4, 2) := (op_21 nb_dX9_bendsAll_20.2.2.2.2.1).trans rfl
theorem dX9_bendsAll_31 : decode cX9_bendsAll 31 = .ok (.aload_n 0, 1) := op_42 nb_dX9_bendsAll_20.2.2.2.2.2.1
set_option maxRecDepth 100000 in
theorem dX9_bendsAll_32 : decode cX9_bendsAll 32 = .ok (.iload 4, 2) := (op_21 nb_dX9_bendsAll_20.2.2.2.2.2.2.1).trans rfl
set_option maxRecDepth 100000 in
theorem dX9_bendsAll_34 : decode cX9_bendsAll 34 = .ok (.invokevirtual 217, 3) := (op_182 nb_dX9_bendsAll_20.2.2.2.2.2.2.2.1).trans rfl
set_option maxRecDepth 100000 in
theorem dX9_bendsAll_37 : decode cX9_bendsAll 37 = .ok (.ifCond .eq 15, 3) := (op_153 nb_dX9_bendsAll_20.2.2.2.2.2.2.2.2.1).trans rfl
theorem dX9_bendsAll_40 : decode cX9_bendsAll 40 = .ok (.aload_n 0, 1) := op_42 nb_dX9_bendsAll_20.2.2.2.2.2.2.2.2.2.1
theorem dX9_bendsAll_41 : decode cX9_bendsAll 41 = .ok (.iload_n 1, 1) := op_27 nb_dX9_bendsAll_20.2.2.2.2.2.2.2.2.2.2.1
set_option maxRecDepth 100000 in
theorem dX9_bendsAll_42 : decode cX9_bendsAll 42 = .ok (.iload 4, 2) := (op_21 nb_dX9_bendsAll_20.2.2.2.2.2.2.2.2.2.2.2.1).trans rfl
theorem nb_dX9_bendsAll_44 : bls_w cX9_bendsAll [(44, [28]), (45, [29]), (46, [182, 0, 220]), (49, [167, 0, 4]), (52, [3]), (53, [79]), (54, [42]), (55, [89]), (56, [180, 0, 208]), (59, [42]), (60, [180, 0, 52]), (63, [21, 4])] := bls_of (by decide +kernel)
theorem dX9_bendsAll_44 : decode cX9_bendsAll 44 = .ok (.iload_n 2, 1) := op_28 nb_dX9_bendsAll_44.1
theorem dX9_bendsAll_45 : decode cX9_bendsAll 45 = .ok (.iload_n 3, 1) := op_29 nb_dX9_bendsAll_44.2.1
set_option maxRecDepth 100000 in
theorem dX9_bendsAll_46 : decode cX9_bendsAll 46 = .ok (.invokevirtual 220, 3) := (op_182 nb_dX9_bendsAll_44.2.2.1).trans rfl
set_option maxRecDepth 100000 in
theorem dX9_bendsAll_49 : decode cX9_bendsAll 49 = .ok (.goto 4, 3) := (op_167 nb_dX9_bendsAll_44.2.2.2.1).trans rfl
theorem dX9_bendsAll_52 : decode cX9_bendsAll 52 = .ok (.iconst 0, 1) := op_3 nb_dX9_bendsAll_44.2.2.2.2.1
theorem dX9_bendsAll_53 : decode cX9_bendsAll 53 = .ok (.iastore, 1) := op_79 nb_dX9_bendsAll_44.2.2.2.2.2.1
theorem dX9_bendsAll_54 : decode cX9_bendsAll 54 = .ok (.aload_n 0, 1) := op_42 nb_dX9_bendsAll_44.2.2.2.2.2.2.1
theorem dX9_bendsAll_55 : decode cX9_bendsAll 55 = .ok (.dup, 1) := op_89 nb_dX9_bendsAll_44.2.2.2.2.2.2.2.1
set_option maxRecDepth 100000 in
theorem dX9_bendsAll_56 : decode cX9_bendsAll 56 = .ok (.getfield 208, 3) := (op_180 nb_dX9_bendsAll_44.2.2.2.2.2.2.2.2.1).trans rfl
theorem dX9_bendsAll_59 : decode cX9_bendsAll 59 = .ok (.aload_n 0, 1) := op_42 nb_dX9_bendsAll_44.2.2.2.2.2.2.2.2.2.1
set_option maxRecDepth 100000 in
theorem dX9_bendsAll_60 : decode cX9_bendsAll 60 = .ok (.getfield 52, 3) := (op_180 nb_dX9_bendsAll_44.2.2.2.2.2.2.2.2.2.2.1).trans rfl
set_option maxRecDepth 100000 in
theorem dX9_bendsAll_63 : decode cX9_bendsAll 63 = .ok (.iload 4, 2) := (op_21 nb_dX9_bendsAll_44.2.2.2.2.2.2.2.2.2.2.2.1).trans rfl
theorem nb_dX9_bendsAll_65 : bls_w cX9_bendsAll [(65, [46]), (66, [158, 0, 7]), (69, [4]), (70, [167, 0, 4]), (73, [3]), (74, [96]), (75, [181, 0, 208]), (78, [132, 4, 1]), (81, [167, 255, 193]), (84, [3]), (85, [54, 4]), (87, [21, 4])] := bls_of (by decide +kernel)
theorem dX9_bendsAll_65 : decode cX9_bendsAll 65 = .ok (.iaload, 1) := op_46 nb_dX9_bendsAll_65.1
set_option maxRecDepth 100000 in
theorem dX9_bendsAll_66 : decode cX9_bendsAll 66 = .ok (.ifCond .le 7, 3) := (op_158 nb_dX9_bendsAll_65.2.1).trans rfl
theorem dX9_bendsAll_69 : decode cX9_bendsAll 69 = .ok (.iconst 1, 1) := op_4 nb_dX9_bendsAll_65.2.2.1
set_option maxRecDepth 100000 in
theorem dX9_bendsAll_70 : decode cX9_bendsAll 70 = .ok (.goto 4, 3) := (op_167 nb_dX9_bendsAll_65.2.2.2.1).trans rfl
theorem dX9_bendsAll_73 : decode cX9_bendsAll 73 = .ok (.iconst 0, 1) := op_3 nb_dX9_bendsAll_65.2.2.2.2.1
theorem dX9_bendsAll_74 : decode cX9_bendsAll 74 = .ok (.iadd, 1) := op_96 nb_dX9_bendsAll_65.2.2.2.2.2.1
set_option maxRecDepth 100000 in
theorem dX9_bendsAll_75 : decode cX9_bendsAll 75 = .ok (.putfield 208, 3) := (op_181 nb_dX9_bendsAll_65.2.2.2.2.2.2.1).trans rfl
set_option maxRecDepth 100000 in
theorem dX9_bendsAll_78 : decode cX9_bendsAll 78 = .ok (.iinc 4 1, 3) := (op_132 nb_dX9_bendsAll_65.2.2.2.2.2.2.2.1).trans rfl
set_option maxRecDepth 100000 in
theorem dX9_bendsAll_81 : decode cX9_bendsAll 81 = .ok (.goto (-63), 3) := (op_167 nb_dX9_bendsAll_65.2.2.2.2.2.2.2.2.1).trans rfl
theorem dX9_bendsAll_84 : decode cX9_bendsAll 84 = .ok (.iconst 0, 1) := op_3 nb_dX9_bendsAll_65.2.2.2.2.2.2.2.2.2.1
set_option maxRecDepth 100000 in
theorem dX9_bendsAll_85 : decode cX9_bendsAll 85 = .ok (.istore 4, 2) := (op_54 nb_dX9_bendsAll_65.2.2.2.2.2.2.2.2.2.2.1).trans rfl
set_option maxRecDepth 100000 in
theorem dX9_bendsAll_87 : decode cX9_bendsAll 87 = .ok (.iload 4, 2) := (op_21 nb_dX9_bendsAll_65.2.2.2.2.2.2.2.2.2.2.2.1).trans rfl
theorem nb_dX9_bendsAll_89 : bls_w cX9_bendsAll [(89, [16, 64]), (91, [162, 0, 165]), (94, [42]), (95, [180, 0, 52]), (98, [21, 4]), (100, [46]), (101, [154, 0, 6]), (104, [167, 0, 146]), (107, [16, 64]), (109, [27]), (110, [104]), (111, [21, 4])] := bls_of (by decide +kernel)
set_option maxRecDepth 100000 in
theorem dX9_bendsAll_89 : decode cX9_bendsAll 89 = .ok (.bipush 64, 2) := (op_16 nb_dX9_bendsAll_89.1).trans rfl
set_option maxRecDepth 100000 in
theorem dX9_bendsAll_91 : decode cX9_bendsAll 91 = .ok (.if_icmp .ge 165, 3) := (op_162 nb_dX9_bendsAll_89.2.1).trans rfl
theorem dX9_bendsAll_94 : decode cX9_bendsAll 94 = .ok (.aload_n 0, 1) := op_42 nb_dX9_bendsAll_89.2.2.1
set_option maxRecDepth 100000 in
theorem dX9_bendsAll_95 : decode cX9_bendsAll 95 = .ok (.getfield 52, 3) := (op_180 nb_dX9_bendsAll_89.2.2.2.1).trans rfl
set_option maxRecDepth 100000 in
theorem dX9_bendsAll_98 : decode cX9_bendsAll 98 = .ok (.iload 4, 2) := (op_21 nb_dX9_bendsAll_89.2.2.2.2.1).trans rfl
theorem dX9_bendsAll_100 : decode cX9_bendsAll 100 = .ok (.iaload, 1) := op_46 nb_dX9_bendsAll_89.2.2.2.2.2.1
set_option maxRecDepth 100000 in
theorem dX9_bendsAll_101 : decode cX9_bendsAll 101 = .ok (.ifCond .ne 6, 3) := (op_154 nb_dX9_bendsAll_89.2.2.2.2.2.2.1).trans rfl
set_option maxRecDepth 100000 in
theorem dX9_bendsAll_104 : decode cX9_bendsAll 104 = .ok (.goto 146, 3) := (op_167 nb_dX9_bendsAll_89.2.2.2.2.2.2.2.1).trans rfl
set_option maxRecDepth 100000 in
theorem dX9_bendsAll_107 : decode cX9_bendsAll 107 = .ok (.bipush 64, 2) := (op_16 nb_dX9_bendsAll_89.2.2.2.2.2.2.2.2.1).trans rfl
theorem dX9_bendsAll_109 : decode cX9_bendsAll 109 = .ok (.iload_n 1, 1) := op_27 nb_dX9_bendsAll_89.2.2.2.2.2.2.2.2.2.1
theorem dX9_bendsAll_110 : decode cX9_bendsAll 110 = .ok (.imul, 1) := op_104 nb_dX9_bendsAll_89.2.2.2.2.2.2.2.2.2.2.1
set_option maxRecDepth 100000 in
theorem dX9_bendsAll_111 : decode cX9_bendsAll 111 = .ok (.iload 4, 2) := (op_21 nb_dX9_bendsAll_89.2.2.2.2.2.2.2.2.2.2.2.1).trans rfl
theorem nb_dX9_bendsAll_113 : bls_w cX9_bendsAll [(113, [96]), (114, [54, 5]), (116, [42]), (117, [180, 0, 40]), (120, [21, 5]), (122, [46]), (123, [153, 0, 24]), (126, [42]), (127, [180, 0, 40]), (130, [21, 5]), (132, [46]), (133, [42])] := bls_of (by decide +kernel)
theorem dX9_bendsAll_113 : decode cX9_bendsAll 113 = .ok (.iadd, 1) := op_96 nb_dX9_bendsAll_113.1
set_option maxRecDepth 100000 in
theorem dX9_bendsAll_114 : decode cX9_bendsAll 114 = .ok (.istore 5, 2) := (op_54 nb_dX9_bendsAll_113.2.1).trans rfl
theorem dX9_bendsAll_116 : decode cX9_bendsAll 116 = .ok (.aload_n 0, 1) := op_42 nb_dX9_bendsAll_113.2.2.1
set_option maxRecDepth 100000 in
theorem dX9_bendsAll_117 : decode cX9_bendsAll 117 = .ok (.getfield 40, 3) := (op_180 nb_dX9_bendsAll_113.2.2.2.1).trans rfl
set_option maxRecDepth 100000 in
theorem dX9_bendsAll_120 : decode cX9_bendsAll 120 = .ok (.iload 5, 2) := (op_21 nb_dX9_bendsAll_113.2.2.2.2.1).trans rfl
theorem dX9_bendsAll_122 : decode cX9_bendsAll 122 = .ok (.iaload, 1) := op_46 nb_dX9_bendsAll_113.2.2.2.2.2.1
set_option maxRecDepth 100000 in
theorem dX9_bendsAll_123 : decode cX9_bendsAll 123 = .ok (.ifCond .eq 24, 3) := (op_153 nb_dX9_bendsAll_113.2.2.2.2.2.2.1).trans rfl
theorem dX9_bendsAll_126 : decode cX9_bendsAll 126 = .ok (.aload_n 0, 1) := op_42 nb_dX9_bendsAll_113.2.2.2.2.2.2.2.1
set_option maxRecDepth 100000 in
theorem dX9_bendsAll_127 : decode cX9_bendsAll 127 = .ok (.getfield 40, 3) := (op_180 nb_dX9_bendsAll_113.2.2.2.2.2.2.2.2.1).trans rfl
set_option maxRecDepth 100000 in
theorem dX9_bendsAll_130 : decode cX9_bendsAll 130 = .ok (.iload 5, 2) := (op_21 nb_dX9_bendsAll_113.2.2.2.2.2.2.2.2.2.1).trans rfl
theorem dX9_bendsAll_132 : decode cX9_bendsAll 132 = .ok (.iaload, 1) := op_46 nb_dX9_bendsAll_113.2.2.2.2.2.2.2.2.2.2.1
theorem dX9_bendsAll_133 : decode cX9_bendsAll 133 = .ok (.aload_n 0, 1) := op_42 nb_dX9_bendsAll_113.2.2.2.2.2.2.2.2.2.2.2.1
theorem nb_dX9_bendsAll_134 : bls_w cX9_bendsAll [(134, [180, 0, 52]), (137, [21, 4]), (139, [46]), (140, [159, 0, 7]), (143, [4]), (144, [167, 0, 4]), (147, [3]), (148, [54, 6]), (150, [42]), (151, [180, 0, 37]), (154, [21, 5]), (156, [46])] := bls_of (by decide +kernel)
set_option maxRecDepth 100000 in
theorem dX9_bendsAll_134 : decode cX9_bendsAll 134 = .ok (.getfield 52, 3) := (op_180 nb_dX9_bendsAll_134.1).trans rfl
set_option maxRecDepth 100000 in
theorem dX9_bendsAll_137 : decode cX9_bendsAll 137 = .ok (.iload 4, 2) := (op_21 nb_dX9_bendsAll_134.2.1).trans rfl
theorem dX9_bendsAll_139 : decode cX9_bendsAll 139 = .ok (.iaload, 1) := op_46 nb_dX9_bendsAll_134.2.2.1
set_option maxRecDepth 100000 in
theorem dX9_bendsAll_140 : decode cX9_bendsAll 140 = .ok (.if_icmp .eq 7, 3) := (op_159 nb_dX9_bendsAll_134.2.2.2.1).trans rfl
theorem dX9_bendsAll_143 : decode cX9_bendsAll 143 = .ok (.iconst 1, 1) := op_4 nb_dX9_bendsAll_134.2.2.2.2.1
set_option maxRecDepth 100000 in
theorem dX9_bendsAll_144 : decode cX9_bendsAll 144 = .ok (.goto 4, 3) := (op_167 nb_dX9_bendsAll_134.2.2.2.2.2.1).trans rfl
theorem dX9_bendsAll_147 : decode cX9_bendsAll 147 = .ok (.iconst 0, 1) := op_3 nb_dX9_bendsAll_134.2.2.2.2.2.2.1
set_option maxRecDepth 100000 in
theorem dX9_bendsAll_148 : decode cX9_bendsAll 148 = .ok (.istore 6, 2) := (op_54 nb_dX9_bendsAll_134.2.2.2.2.2.2.2.1).trans rfl
theorem dX9_bendsAll_150 : decode cX9_bendsAll 150 = .ok (.aload_n 0, 1) := op_42 nb_dX9_bendsAll_134.2.2.2.2.2.2.2.2.1
set_option maxRecDepth 100000 in
theorem dX9_bendsAll_151 : decode cX9_bendsAll 151 = .ok (.getfield 37, 3) := (op_180 nb_dX9_bendsAll_134.2.2.2.2.2.2.2.2.2.1).trans rfl
set_option maxRecDepth 100000 in
theorem dX9_bendsAll_154 : decode cX9_bendsAll 154 = .ok (.iload 5, 2) := (op_21 nb_dX9_bendsAll_134.2.2.2.2.2.2.2.2.2.2.1).trans rfl
theorem dX9_bendsAll_156 : decode cX9_bendsAll 156 = .ok (.iaload, 1) := op_46 nb_dX9_bendsAll_134.2.2.2.2.2.2.2.2.2.2.2.1
theorem nb_dX9_bendsAll_157 : bls_w cX9_bendsAll [(157, [54, 7]), (159, [21, 7]), (161, [42]), (162, [42]), (163, [180, 0, 208]), (166, [21, 7]), (168, [21, 6]), (170, [21, 4]), (172, [42]), (173, [180, 0, 52]), (176, [21, 4]), (178, [46])] := bls_of (by decide +kernel)
set_option maxRecDepth 100000 in
theorem dX9_bendsAll_157 : decode cX9_bendsAll 157 = .ok (.istore 7, 2) := (op_54 nb_dX9_bendsAll_157.1).trans rfl
set_option maxRecDepth 100000 in
theorem dX9_bendsAll_159 : decode cX9_bendsAll 159 = .ok (.iload 7, 2) := (op_21 nb_dX9_bendsAll_157.2.1).trans rfl
theorem dX9_bendsAll_161 : decode cX9_bendsAll 161 = .ok (.aload_n 0, 1) := op_42 nb_dX9_bendsAll_157.2.2.1
theorem dX9_bendsAll_162 : decode cX9_bendsAll 162 = .ok (.aload_n 0, 1) := op_42 nb_dX9_bendsAll_157.2.2.2.1
set_option maxRecDepth 100000 in
theorem dX9_bendsAll_163 : decode cX9_bendsAll 163 = .ok (.getfield 208, 3) := (op_180 nb_dX9_bendsAll_157.2.2.2.2.1).trans rfl
set_option maxRecDepth 100000 in
theorem dX9_bendsAll_166 : decode cX9_bendsAll 166 = .ok (.iload 7, 2) := (op_21 nb_dX9_bendsAll_157.2.2.2.2.2.1).trans rfl
set_option maxRecDepth 100000 in
theorem dX9_bendsAll_168 : decode cX9_bendsAll 168 = .ok (.iload 6, 2) := (op_21 nb_dX9_bendsAll_157.2.2.2.2.2.2.1).trans rfl
set_option maxRecDepth 100000 in
theorem dX9_bendsAll_170 : decode cX9_bendsAll 170 = .ok (.iload 4, 2) := (op_21 nb_dX9_bendsAll_157.2.2.2.2.2.2.2.1).trans rfl
theorem dX9_bendsAll_172 : decode cX9_bendsAll 172 = .ok (.aload_n 0, 1) := op_42 nb_dX9_bendsAll_157.2.2.2.2.2.2.2.2.1
set_option maxRecDepth 100000 in
theorem dX9_bendsAll_173 : decode cX9_bendsAll 173 = .ok (.getfield 52, 3) := (op_180 nb_dX9_bendsAll_157.2.2.2.2.2.2.2.2.2.1).trans rfl
set_option maxRecDepth 100000 in
theorem dX9_bendsAll_176 : decode cX9_bendsAll 176 = .ok (.iload 4, 2) := (op_21 nb_dX9_bendsAll_157.2.2.2.2.2.2.2.2.2.2.1).trans rfl
theorem dX9_bendsAll_178 : decode cX9_bendsAll 178 = .ok (.iaload, 1) := op_46 nb_dX9_bendsAll_157.2.2.2.2.2.2.2.2.2.2.2.1
theorem nb_dX9_bendsAll_179 : bls_w cX9_bendsAll [(179, [182, 0, 224]), (182, [96]), (183, [54, 8]), (185, [42]), (186, [180, 0, 37]), (189, [21, 5]), (191, [21, 8]), (193, [16, 99]), (195, [164, 0, 8]), (198, [16, 99]), (200, [167, 0, 5]), (203, [21, 8])] := bls_of (by decide +kernel)
set_option maxRecDepth 100000 in
theorem dX9_bendsAll_179 : decode cX9_bendsAll 179 = .ok (.invokevirtual 224, 3) := (op_182 nb_dX9_bendsAll_179.1).trans rfl
theorem dX9_bendsAll_182 : decode cX9_bendsAll 182 = .ok (.iadd, 1) := op_96 nb_dX9_bendsAll_179.2.1
set_option maxRecDepth 100000 in
theorem dX9_bendsAll_183 : decode cX9_bendsAll 183 = .ok (.istore 8, 2) := (op_54 nb_dX9_bendsAll_179.2.2.1).trans rfl
theorem dX9_bendsAll_185 : decode cX9_bendsAll 185 = .ok (.aload_n 0, 1) := op_42 nb_dX9_bendsAll_179.2.2.2.1
set_option maxRecDepth 100000 in
theorem dX9_bendsAll_186 : decode cX9_bendsAll 186 = .ok (.getfield 37, 3) := (op_180 nb_dX9_bendsAll_179.2.2.2.2.1).trans rfl
set_option maxRecDepth 100000 in
theorem dX9_bendsAll_189 : decode cX9_bendsAll 189 = .ok (.iload 5, 2) := (op_21 nb_dX9_bendsAll_179.2.2.2.2.2.1).trans rfl
set_option maxRecDepth 100000 in
theorem dX9_bendsAll_191 : decode cX9_bendsAll 191 = .ok (.iload 8, 2) := (op_21 nb_dX9_bendsAll_179.2.2.2.2.2.2.1).trans rfl
set_option maxRecDepth 100000 in
theorem dX9_bendsAll_193 : decode cX9_bendsAll 193 = .ok (.bipush 99, 2) := (op_16 nb_dX9_bendsAll_179.2.2.2.2.2.2.2.1).trans rfl
set_option maxRecDepth 100000 in
theorem dX9_bendsAll_195 : decode cX9_bendsAll 195 = .ok (.if_icmp .le 8, 3) := (op_164 nb_dX9_bendsAll_179.2.2.2.2.2.2.2.2.1).trans rfl
set_option maxRecDepth 100000 in
theorem dX9_bendsAll_198 : decode cX9_bendsAll 198 = .ok (.bipush 99, 2) := (op_16 nb_dX9_bendsAll_179.2.2.2.2.2.2.2.2.2.1).trans rfl
set_option maxRecDepth 100000 in
theorem dX9_bendsAll_200 : decode cX9_bendsAll 200 = .ok (.goto 5, 3) := (op_167 nb_dX9_bendsAll_179.2.2.2.2.2.2.2.2.2.2.1).trans rfl
set_option maxRecDepth 100000 in
theorem dX9_bendsAll_203 : decode cX9_bendsAll 203 = .ok (.iload 8, 2) := (op_21 nb_dX9_bendsAll_179.2.2.2.2.2.2.2.2.2.2.2.1).trans rfl
theorem nb_dX9_bendsAll_205 : bls_w cX9_bendsAll [(205, [79]), (206, [42]), (207, [180, 0, 40]), (210, [21, 5]), (212, [42]), (213, [180, 0, 52]), (216, [21, 4]), (218, [46]), (219, [79]), (220, [42]), (221, [89]), (222, [180, 0, 211])] := bls_of (by decide +kernel)
theorem dX9_bendsAll_205 : decode cX9_bendsAll 205 = .ok (.iastore, 1) := op_79 nb_dX9_bendsAll_205.1
theorem dX9_bendsAll_206 : decode cX9_bendsAll 206 = .ok (.aload_n 0, 1) := op_42 nb_dX9_bendsAll_205.2.1
set_option maxRecDepth 100000 in
theorem dX9_bendsAll_207 : decode cX9_bendsAll 207 = .ok (.getfield 40, 3) := (op_180 nb_dX9_bendsAll_205.2.2.1).trans rfl
set_option maxRecDepth 100000 in
theorem dX9_bendsAll_210 : decode cX9_bendsAll 210 = .ok (.iload 5, 2) := (op_21 nb_dX9_bendsAll_205.2.2.2.1).trans rfl
theorem dX9_bendsAll_212 : decode cX9_bendsAll 212 = .ok (.aload_n 0, 1) := op_42 nb_dX9_bendsAll_205.2.2.2.2.1
set_option maxRecDepth 100000 in
theorem dX9_bendsAll_213 : decode cX9_bendsAll 213 = .ok (.getfield 52, 3) := (op_180 nb_dX9_bendsAll_205.2.2.2.2.2.1).trans rfl
set_option maxRecDepth 100000 in
theorem dX9_bendsAll_216 : decode cX9_bendsAll 216 = .ok (.iload 4, 2) := (op_21 nb_dX9_bendsAll_205.2.2.2.2.2.2.1).trans rfl
theorem dX9_bendsAll_218 : decode cX9_bendsAll 218 = .ok (.iaload, 1) := op_46 nb_dX9_bendsAll_205.2.2.2.2.2.2.2.1
theorem dX9_bendsAll_219 : decode cX9_bendsAll 219 = .ok (.iastore, 1) := op_79 nb_dX9_bendsAll_205.2.2.2.2.2.2.2.2.1
theorem dX9_bendsAll_220 : decode cX9_bendsAll 220 = .ok (.aload_n 0, 1) := op_42 nb_dX9_bendsAll_205.2.2.2.2.2.2.2.2.2.1
theorem dX9_bendsAll_221 : decode cX9_bendsAll 221 = .ok (.dup, 1) := op_89 nb_dX9_bendsAll_205.2.2.2.2.2.2.2.2.2.2.1
set_option maxRecDepth 100000 in
theorem dX9_bendsAll_222 : decode cX9_bendsAll 222 = .ok (.getfield 211, 3) := (op_180 nb_dX9_bendsAll_205.2.2.2.2.2.2.2.2.2.2.2.1).trans rfl
theorem nb_dX9_bendsAll_225 : bls_w cX9_bendsAll [(225, [21, 6]), (227, [96]), (228, [181, 0, 211]), (231, [42]), (232, [89]), (233, [180, 0, 214]), (236, [42]), (237, [180, 0, 37]), (240, [21, 5]), (242, [46]), (243, [21, 7]), (245, [100])] := bls_of (by decide +kernel)
set_option maxRecDepth 100000 in
theorem dX9_bendsAll_225 : decode cX9_bendsAll 225 = .ok (.iload 6, 2) := (op_21 nb_dX9_bendsAll_225.1).trans rfl
theorem dX9_bendsAll_227 : decode cX9_bendsAll 227 = .ok (.iadd, 1) := op_96 nb_dX9_bendsAll_225.2.1
set_option maxRecDepth 100000 in
theorem dX9_bendsAll_228 : decode cX9_bendsAll 228 = .ok (.putfield 211, 3) := (op_181 nb_dX9_bendsAll_225.2.2.1).trans rfl
theorem dX9_bendsAll_231 : decode cX9_bendsAll 231 = .ok (.aload_n 0, 1) := op_42 nb_dX9_bendsAll_225.2.2.2.1
theorem dX9_bendsAll_232 : decode cX9_bendsAll 232 = .ok (.dup, 1) := op_89 nb_dX9_bendsAll_225.2.2.2.2.1
set_option maxRecDepth 100000 in
theorem dX9_bendsAll_233 : decode cX9_bendsAll 233 = .ok (.getfield 214, 3) := (op_180 nb_dX9_bendsAll_225.2.2.2.2.2.1).trans rfl
theorem dX9_bendsAll_236 : decode cX9_bendsAll 236 = .ok (.aload_n 0, 1) := op_42 nb_dX9_bendsAll_225.2.2.2.2.2.2.1
set_option maxRecDepth 100000 in
theorem dX9_bendsAll_237 : decode cX9_bendsAll 237 = .ok (.getfield 37, 3) := (op_180 nb_dX9_bendsAll_225.2.2.2.2.2.2.2.1).trans rfl
set_option maxRecDepth 100000 in
theorem dX9_bendsAll_240 : decode cX9_bendsAll 240 = .ok (.iload 5, 2) := (op_21 nb_dX9_bendsAll_225.2.2.2.2.2.2.2.2.1).trans rfl
theorem dX9_bendsAll_242 : decode cX9_bendsAll 242 = .ok (.iaload, 1) := op_46 nb_dX9_bendsAll_225.2.2.2.2.2.2.2.2.2.1
set_option maxRecDepth 100000 in
theorem dX9_bendsAll_243 : decode cX9_bendsAll 243 = .ok (.iload 7, 2) := (op_21 nb_dX9_bendsAll_225.2.2.2.2.2.2.2.2.2.2.1).trans rfl
theorem dX9_bendsAll_245 : decode cX9_bendsAll 245 = .ok (.isub, 1) := op_100 nb_dX9_bendsAll_225.2.2.2.2.2.2.2.2.2.2.2.1
theorem nb_dX9_bendsAll_246 : bls_w cX9_bendsAll [(246, [96]), (247, [181, 0, 214]), (250, [132, 4, 1]), (253, [167, 255, 90]), (256, [177])] := bls_of (by decide +kernel)
theorem dX9_bendsAll_246 : decode cX9_bendsAll 246 = .ok (.iadd, 1) := op_96 nb_dX9_bendsAll_246.1
set_option maxRecDepth 100000 in
theorem dX9_bendsAll_247 : decode cX9_bendsAll 247 = .ok (.putfield 214, 3) := (op_181 nb_dX9_bendsAll_246.2.1).trans rfl
set_option maxRecDepth 100000 in
theorem dX9_bendsAll_250 : decode cX9_bendsAll 250 = .ok (.iinc 4 1, 3) := (op_132 nb_dX9_bendsAll_246.2.2.1).trans rfl
set_option maxRecDepth 100000 in
theorem dX9_bendsAll_253 : decode cX9_bendsAll 253 = .ok (.goto (-166), 3) := (op_167 nb_dX9_bendsAll_246.2.2.2.1).trans rfl
theorem dX9_bendsAll_256 : decode cX9_bendsAll 256 = .ok (.return_, 1) := op_177 nb_dX9_bendsAll_246.2.2.2.2.1
def fX9_bendsAll_74 (N : Nat) (k_18 : Int32 → Int32 → Int32 → Int32 → Int32 → Int32 → Int32 → Int32 → Int32 → Int32 → Int32 → Int32 → Int32 → Int32 → Int32 → List Int32 → List Int32 → List Int32 → List Int32 → List Int32 → List Int32 → List Int32 → List Int32 → List Int32 → List Int32 → Option (Int32 × Int32 × Int32 × Int32 × Int32 × Int32 × Int32 × Int32 × List Int32 × List Int32 × List Int32 × List Int32)) (x1 : Int32) (x2 : Int32) (x3 : Int32) (x4 : Int32) (s0 : Int32) (s1 : Int32) (v_rowsOf : Int32) (v_columnsOf : Int32) (v_textMany : Int32) (v_base : Int32) (v_at : Int32) (v_ends : Int32) (v_fault : Int32) (v_opened : Int32) (v_bentMany : Int32) (v_bentWrong : Int32) (v_moreWorn : Int32) (v_limit : List Int32) (v_row : List Int32) (v_column : List Int32) (v_face : List Int32) (v_worn : List Int32) (v_lastBend : List Int32) (v_tape : List Int32) (v_text : List Int32) (v_names : List Int32) (v_bends : List Int32) : Option (Int32 × Int32 × Int32 × Int32 × Int32 × Int32 × Int32 × Int32 × List Int32 × List Int32 × List Int32 × List Int32) :=
    mm_nm ((s1 + s0)) (fun (y_11 : Int32) =>
    mm_nm (x4 + (1 : Int32)) (fun (y_12 : Int32) =>
    k_18 x1 x2 x3 y_12 v_rowsOf v_columnsOf v_textMany v_base v_at v_ends v_fault v_opened y_11 v_bentWrong v_moreWorn v_limit v_row v_column v_face v_worn v_lastBend v_tape v_text v_names v_bends))

set_option maxHeartbeats 4000000 in
set_option maxRecDepth 100000 in
theorem tX9_bendsAll_74 {p : Program} {l : Launch} {e : Env} {s : State} {m : MethodId} {args : Array Value} {below : List Frame} {meth : Method} {c : Code} {D : va_G} {cI cL cS cH : ClassId} {A : Nat → Prop} {d : Nat} {a : Nat → Nat} (hd : 58 ≤ d) (C0 : mm_Cx p s m args meth c RX9 cX9_bendsAll 9 none D (mm_T cI cL cS cH) A) (hA : ∀ q, s.heap.size ≤ q → A q) {v_keptMany : Int32} {v_done : Int32} {v_folded : Int32} {v_wronged : Int32} {v_tapeMany : Int32} {v_planned : Int32} {v_allWrong : Int32} {v_allWorn : Int32} {v_z : Int32} {v_wishedField : Int32} {v_isFound : Bool} {v_bestWrong : Int32} {v_bestWorn : Int32} {v_bestMany : Int32} {v_soughtBy : Int32} {v_sought : Int32} {v_soughtAt : Int32} {v_foundMany : Int32} {v_foundOrder : Int32} {v_isKept : Bool} {v_imageRows : Int32} {v_imageColumns : Int32} {v_imageFolded : Int32} {v_imageWronged : Int32} {v_bodies : Int32} {v_ran : Int32} {v_ownKind : Int32} {v_ownNumber : Int32} {v_changeWas : List Int32} {v_changeIs : List Int32} {v_shapeRows : List Int32} {v_shapeColumns : List Int32} {v_below : List Int32} {v_high : List Int32} {v_to : List Int32} {v_pileSize : List Int32} {v_planLine : List Int32} {v_planWay : List Int32} {v_way1 : List Int32} {v_bestWay : List Int32} {v_order1 : List Int32} {v_placeIn : List Int32} {v_bodyKind : List Int32} {v_trace : List Int32} {v_shelf : List Int32} {v_many : List Int32} {v_items : List Int64} {v_carried : List Int64} {w_base : Int32} {w_at : Int32} {w_ends : Int32} {w_fault : Int32} {w_opened : Int32} {w_bentMany : Int32} {w_bentWrong : Int32} {w_moreWorn : Int32} {w_worn : List Int32} {w_lastBend : List Int32} {w_names : List Int32} {w_bends : List Int32} (N : Nat) {k_18 : Int32 → Int32 → Int32 → Int32 → Int32 → Int32 → Int32 → Int32 → Int32 → Int32 → Int32 → Int32 → Int32 → Int32 → Int32 → List Int32 → List Int32 → List Int32 → List Int32 → List Int32 → List Int32 → List Int32 → List Int32 → List Int32 → List Int32 → Option (Int32 × Int32 × Int32 × Int32 × Int32 × Int32 × Int32 × Int32 × List Int32 × List Int32 × List Int32 × List Int32)} (hk_18 : ∀ (x1 : Int32) (x2 : Int32) (x3 : Int32) (x4 : Int32) (v_rowsOf : Int32) (v_columnsOf : Int32) (v_textMany : Int32) (v_base : Int32) (v_at : Int32) (v_ends : Int32) (v_fault : Int32) (v_opened : Int32) (v_bentMany : Int32) (v_bentWrong : Int32) (v_moreWorn : Int32) (v_limit : List Int32) (v_row : List Int32) (v_column : List Int32) (v_face : List Int32) (v_worn : List Int32) (v_lastBend : List Int32) (v_tape : List Int32) (v_text : List Int32) (v_names : List Int32) (v_bends : List Int32) (H : Heap) (locs : List Loc) (ls : Array Slot), k_18 x1 x2 x3 x4 v_rowsOf v_columnsOf v_textMany v_base v_at v_ends v_fault v_opened v_bentMany v_bentWrong v_moreWorn v_limit v_row v_column v_face v_worn v_lastBend v_tape v_text v_names v_bends = some (w_base, w_at, w_ends, w_fault, w_opened, w_bentMany, w_bentWrong, w_moreWorn, w_worn, w_lastBend, w_names, w_bends) → va_P D mm_cl (wd_X9 cI cL cS cH a v_keptMany v_done v_rowsOf v_columnsOf v_folded v_wronged v_tapeMany v_textMany v_base v_at v_ends v_fault v_opened v_bentMany v_bentWrong v_moreWorn v_planned v_allWrong v_allWorn v_z v_wishedField v_isFound v_bestWrong v_bestWorn v_bestMany v_soughtBy v_sought v_soughtAt v_foundMany v_foundOrder v_isKept v_imageRows v_imageColumns v_imageFolded v_imageWronged v_bodies v_ran v_ownKind v_ownNumber v_limit v_changeWas v_changeIs v_shapeRows v_shapeColumns v_row v_column v_below v_face v_worn v_lastBend v_tape v_text v_names v_bends v_high v_to v_pileSize v_planLine v_planWay v_way1 v_bestWay v_order1 v_placeIn v_bodyKind v_trace v_shelf v_many v_items v_carried) H → va_D A (wd_X9 cI cL cS cH a v_keptMany v_done v_rowsOf v_columnsOf v_folded v_wronged v_tapeMany v_textMany v_base v_at v_ends v_fault v_opened v_bentMany v_bentWrong v_moreWorn v_planned v_allWrong v_allWorn v_z v_wishedField v_isFound v_bestWrong v_bestWorn v_bestMany v_soughtBy v_sought v_soughtAt v_foundMany v_foundOrder v_isKept v_imageRows v_imageColumns v_imageFolded v_imageWronged v_bodies v_ran v_ownKind v_ownNumber v_limit v_changeWas v_changeIs v_shapeRows v_shapeColumns v_row v_column v_below v_face v_worn v_lastBend v_tape v_text v_names v_bends v_high v_to v_pileSize v_planLine v_planWay v_way1 v_bestWay v_order1 v_placeIn v_bodyKind v_trace v_shelf v_many v_items v_carried) → va_S A s.heap H locs → lv_has ls 9 [(0, .ref (a 0)), (1, .int x1), (2, .int x2), (3, .int x3), (4, .int x4)] → W p l e (mm_rr d) s m args below meth c H locs 0 0 (mm_Z below D A (wd_X9 cI cL cS cH a v_keptMany v_done v_rowsOf v_columnsOf v_folded v_wronged v_tapeMany v_textMany w_base w_at w_ends w_fault w_opened w_bentMany w_bentWrong w_moreWorn v_planned v_allWrong v_allWorn v_z v_wishedField v_isFound v_bestWrong v_bestWorn v_bestMany v_soughtBy v_sought v_soughtAt v_foundMany v_foundOrder v_isKept v_imageRows v_imageColumns v_imageFolded v_imageWronged v_bodies v_ran v_ownKind v_ownNumber v_limit v_changeWas v_changeIs v_shapeRows v_shapeColumns v_row v_column v_below v_face w_worn w_lastBend v_tape v_text w_names w_bends v_high v_to v_pileSize v_planLine v_planWay v_way1 v_bestWay v_order1 v_placeIn v_bodyKind v_trace v_shelf v_many v_items v_carried) none args s) (F0 m 18 ls [])) : ∀ (x1 : Int32) (x2 : Int32) (x3 : Int32) (x4 : Int32) (s0 : Int32) (s1 : Int32) (v_rowsOf : Int32) (v_columnsOf : Int32) (v_textMany : Int32) (v_base : Int32) (v_at : Int32) (v_ends : Int32) (v_fault : Int32) (v_opened : Int32) (v_bentMany : Int32) (v_bentWrong : Int32) (v_moreWorn : Int32) (v_limit : List Int32) (v_row : List Int32) (v_column : List Int32) (v_face : List Int32) (v_worn : List Int32) (v_lastBend : List Int32) (v_tape : List Int32) (v_text : List Int32) (v_names : List Int32) (v_bends : List Int32) (H : Heap) (locs : List Loc) (ls : Array Slot), fX9_bendsAll_74 N k_18 x1 x2 x3 x4 s0 s1 v_rowsOf v_columnsOf v_textMany v_base v_at v_ends v_fault v_opened v_bentMany v_bentWrong v_moreWorn v_limit v_row v_column v_face v_worn v_lastBend v_tape v_text v_names v_bends = some (w_base, w_at, w_ends, w_fault, w_opened, w_bentMany, w_bentWrong, w_moreWorn, w_worn, w_lastBend, w_names, w_bends) → va_P D mm_cl (wd_X9 cI cL cS cH a v_keptMany v_done v_rowsOf v_columnsOf v_folded v_wronged v_tapeMany v_textMany v_base v_at v_ends v_fault v_opened v_bentMany v_bentWrong v_moreWorn v_planned v_allWrong v_allWorn v_z v_wishedField v_isFound v_bestWrong v_bestWorn v_bestMany v_soughtBy v_sought v_soughtAt v_foundMany v_foundOrder v_isKept v_imageRows v_imageColumns v_imageFolded v_imageWronged v_bodies v_ran v_ownKind v_ownNumber v_limit v_changeWas v_changeIs v_shapeRows v_shapeColumns v_row v_column v_below v_face v_worn v_lastBend v_tape v_text v_names v_bends v_high v_to v_pileSize v_planLine v_planWay v_way1 v_bestWay v_order1 v_placeIn v_bodyKind v_trace v_shelf v_many v_items v_carried) H → va_D A (wd_X9 cI cL cS cH a v_keptMany v_done v_rowsOf v_columnsOf v_folded v_wronged v_tapeMany v_textMany v_base v_at v_ends v_fault v_opened v_bentMany v_bentWrong v_moreWorn v_planned v_allWrong v_allWorn v_z v_wishedField v_isFound v_bestWrong v_bestWorn v_bestMany v_soughtBy v_sought v_soughtAt v_foundMany v_foundOrder v_isKept v_imageRows v_imageColumns v_imageFolded v_imageWronged v_bodies v_ran v_ownKind v_ownNumber v_limit v_changeWas v_changeIs v_shapeRows v_shapeColumns v_row v_column v_below v_face v_worn v_lastBend v_tape v_text v_names v_bends v_high v_to v_pileSize v_planLine v_planWay v_way1 v_bestWay v_order1 v_placeIn v_bodyKind v_trace v_shelf v_many v_items v_carried) → va_S A s.heap H locs → lv_has ls 9 [(0, .ref (a 0)), (1, .int x1), (2, .int x2), (3, .int x3), (4, .int x4)] → W p l e (mm_rr d) s m args below meth c H locs 0 0 (mm_Z below D A (wd_X9 cI cL cS cH a v_keptMany v_done v_rowsOf v_columnsOf v_folded v_wronged v_tapeMany v_textMany w_base w_at w_ends w_fault w_opened w_bentMany w_bentWrong w_moreWorn v_planned v_allWrong v_allWorn v_z v_wishedField v_isFound v_bestWrong v_bestWorn v_bestMany v_soughtBy v_sought v_soughtAt v_foundMany v_foundOrder v_isKept v_imageRows v_imageColumns v_imageFolded v_imageWronged v_bodies v_ran v_ownKind v_ownNumber v_limit v_changeWas v_changeIs v_shapeRows v_shapeColumns v_row v_column v_below v_face w_worn w_lastBend v_tape v_text w_names w_bends v_high v_to v_pileSize v_planLine v_planWay v_way1 v_bestWay v_order1 v_placeIn v_bodyKind v_trace v_shelf v_many v_items v_carried) none args s) (F0 m 74 ls [.int s0, .int s1, .ref (a 0)]) := by
  obtain ⟨hx, hb, hml, hown, hts, hr, hlocks, hK, hSt⟩ := id C0
  intro x1 x2 x3 x4 s0 s1 v_rowsOf v_columnsOf v_textMany v_base v_at v_ends v_fault v_opened v_bentMany v_bentWrong v_moreWorn v_limit v_row v_column v_face v_worn v_lastBend v_tape v_text v_names v_bends H locs ls hf hP hD hS hl
  unfold fX9_bendsAll_74 at hf
  refine lv_iadd hx hb dX9_bendsAll_74 ?_
  refine lv_topi (fun y_11 ey_11 => ?_)
  have hf := mm_nms hf ey_11
  refine mm_put C0 hP hD hS iw_X9 tyX9 tyX9_ok nmX9 0 rfl rfl 28 (by decide) fl_X9_208 rfl rfl rfl (Nat.le_of_ble_eq_true rfl) dX9_bendsAll_75 (w2 := (wd_X9 cI cL cS cH a v_keptMany v_done v_rowsOf v_columnsOf v_folded v_wronged v_tapeMany v_textMany v_base v_at v_ends v_fault v_opened y_11 v_bentWrong v_moreWorn v_planned v_allWrong v_allWorn v_z v_wishedField v_isFound v_bestWrong v_bestWorn v_bestMany v_soughtBy v_sought v_soughtAt v_foundMany v_foundOrder v_isKept v_imageRows v_imageColumns v_imageFolded v_imageWronged v_bodies v_ran v_ownKind v_ownNumber v_limit v_changeWas v_changeIs v_shapeRows v_shapeColumns v_row v_column v_below v_face v_worn v_lastBend v_tape v_text v_names v_bends v_high v_to v_pileSize v_planLine v_planWay v_way1 v_bestWay v_order1 v_placeIn v_bodyKind v_trace v_shelf v_many v_items v_carried)) rfl (fun H locs hP hD hS => ?_)
  obtain ⟨y_12, ey_12⟩ : ∃ z : Int32, z = x4 + (1 : Int32) := ⟨_, rfl⟩
  have hf := mm_nms hf ey_12
  refine lv_iinc (v := y_12) (lv' := [(4, .int y_12), (0, .ref (a 0)), (1, .int x1), (2, .int x2), (3, .int x3)]) hx hb dX9_bendsAll_78 hl (k := 4) rfl (by rw [ey_12]; rfl) (by decide) rfl (fun ls hl => ?_)
  refine lv_goto (tgt := 18) hx hb dX9_bendsAll_81 (by decide) ?_
  exact hk_18 _ _ _ _ _ _ _ _ _ _ _ _ _ _ _ _ _ _ _ _ _ _ _ _ _ H locs ls hf hP hD hS (lv_sub hl [1, 2, 3, 4, 0] rfl)

def fX9_bendsAll_53 (N : Nat) (k_18 : Int32 → Int32 → Int32 → Int32 → Int32 → Int32 → Int32 → Int32 → Int32 → Int32 → Int32 → Int32 → Int32 → Int32 → Int32 → List Int32 → List Int32 → List Int32 → List Int32 → List Int32 → List Int32 → List Int32 → List Int32 → List Int32 → List Int32 → Option (Int32 × Int32 × Int32 × Int32 × Int32 × Int32 × Int32 × Int32 × List Int32 × List Int32 × List Int32 × List Int32)) (x1 : Int32) (x2 : Int32) (x3 : Int32) (x4 : Int32) (s0 : Int32) (s1 : Int32) (v_rowsOf : Int32) (v_columnsOf : Int32) (v_textMany : Int32) (v_base : Int32) (v_at : Int32) (v_ends : Int32) (v_fault : Int32) (v_opened : Int32) (v_bentMany : Int32) (v_bentWrong : Int32) (v_moreWorn : Int32) (v_limit : List Int32) (v_row : List Int32) (v_column : List Int32) (v_face : List Int32) (v_worn : List Int32) (v_lastBend : List Int32) (v_tape : List Int32) (v_text : List Int32) (v_names : List Int32) (v_bends : List Int32) : Option (Int32 × Int32 × Int32 × Int32 × Int32 × Int32 × Int32 × Int32 × List Int32 × List Int32 × List Int32 × List Int32) :=
    mm_ck (mm_inb s1 v_bends.length) (mm_nm (mm_is v_bends s1 s0) (fun (l_8 : List Int32) =>
    mm_ck (mm_inb x4 l_8.length) (if (mm_ig l_8 x4) ≤ 0 then
    (fX9_bendsAll_74 N k_18 x1 x2 x3 x4 (0 : Int32) v_bentMany v_rowsOf v_columnsOf v_textMany v_base v_at v_ends v_fault v_opened v_bentMany v_bentWrong v_moreWorn v_limit v_row v_column v_face v_worn v_lastBend v_tape v_text v_names l_8)
    else (fX9_bendsAll_74 N k_18 x1 x2 x3 x4 (1 : Int32) v_bentMany v_rowsOf v_columnsOf v_textMany v_base v_at v_ends v_fault v_opened v_bentMany v_bentWrong v_moreWorn v_limit v_row v_column v_face v_worn v_lastBend v_tape v_text v_names l_8))))

set_option maxHeartbeats 4000000 in
set_option maxRecDepth 100000 in
theorem tX9_bendsAll_53 {p : Program} {l : Launch} {e : Env} {s : State} {m : MethodId} {args : Array Value} {below : List Frame} {meth : Method} {c : Code} {D : va_G} {cI cL cS cH : ClassId} {A : Nat → Prop} {d : Nat} {a : Nat → Nat} (hd : 58 ≤ d) (C0 : mm_Cx p s m args meth c RX9 cX9_bendsAll 9 none D (mm_T cI cL cS cH) A) (hA : ∀ q, s.heap.size ≤ q → A q) {v_keptMany : Int32} {v_done : Int32} {v_folded : Int32} {v_wronged : Int32} {v_tapeMany : Int32} {v_planned : Int32} {v_allWrong : Int32} {v_allWorn : Int32} {v_z : Int32} {v_wishedField : Int32} {v_isFound : Bool} {v_bestWrong : Int32} {v_bestWorn : Int32} {v_bestMany : Int32} {v_soughtBy : Int32} {v_sought : Int32} {v_soughtAt : Int32} {v_foundMany : Int32} {v_foundOrder : Int32} {v_isKept : Bool} {v_imageRows : Int32} {v_imageColumns : Int32} {v_imageFolded : Int32} {v_imageWronged : Int32} {v_bodies : Int32} {v_ran : Int32} {v_ownKind : Int32} {v_ownNumber : Int32} {v_changeWas : List Int32} {v_changeIs : List Int32} {v_shapeRows : List Int32} {v_shapeColumns : List Int32} {v_below : List Int32} {v_high : List Int32} {v_to : List Int32} {v_pileSize : List Int32} {v_planLine : List Int32} {v_planWay : List Int32} {v_way1 : List Int32} {v_bestWay : List Int32} {v_order1 : List Int32} {v_placeIn : List Int32} {v_bodyKind : List Int32} {v_trace : List Int32} {v_shelf : List Int32} {v_many : List Int32} {v_items : List Int64} {v_carried : List Int64} {w_base : Int32} {w_at : Int32} {w_ends : Int32} {w_fault : Int32} {w_opened : Int32} {w_bentMany : Int32} {w_bentWrong : Int32} {w_moreWorn : Int32} {w_worn : List Int32} {w_lastBend : List Int32} {w_names : List Int32} {w_bends : List Int32} (N : Nat) {k_18 : Int32 → Int32 → Int32 → Int32 → Int32 → Int32 → Int32 → Int32 → Int32 → Int32 → Int32 → Int32 → Int32 → Int32 → Int32 → List Int32 → List Int32 → List Int32 → List Int32 → List Int32 → List Int32 → List Int32 → List Int32 → List Int32 → List Int32 → Option (Int32 × Int32 × Int32 × Int32 × Int32 × Int32 × Int32 × Int32 × List Int32 × List Int32 × List Int32 × List Int32)} (hk_18 : ∀ (x1 : Int32) (x2 : Int32) (x3 : Int32) (x4 : Int32) (v_rowsOf : Int32) (v_columnsOf : Int32) (v_textMany : Int32) (v_base : Int32) (v_at : Int32) (v_ends : Int32) (v_fault : Int32) (v_opened : Int32) (v_bentMany : Int32) (v_bentWrong : Int32) (v_moreWorn : Int32) (v_limit : List Int32) (v_row : List Int32) (v_column : List Int32) (v_face : List Int32) (v_worn : List Int32) (v_lastBend : List Int32) (v_tape : List Int32) (v_text : List Int32) (v_names : List Int32) (v_bends : List Int32) (H : Heap) (locs : List Loc) (ls : Array Slot), k_18 x1 x2 x3 x4 v_rowsOf v_columnsOf v_textMany v_base v_at v_ends v_fault v_opened v_bentMany v_bentWrong v_moreWorn v_limit v_row v_column v_face v_worn v_lastBend v_tape v_text v_names v_bends = some (w_base, w_at, w_ends, w_fault, w_opened, w_bentMany, w_bentWrong, w_moreWorn, w_worn, w_lastBend, w_names, w_bends) → va_P D mm_cl (wd_X9 cI cL cS cH a v_keptMany v_done v_rowsOf v_columnsOf v_folded v_wronged v_tapeMany v_textMany v_base v_at v_ends v_fault v_opened v_bentMany v_bentWrong v_moreWorn v_planned v_allWrong v_allWorn v_z v_wishedField v_isFound v_bestWrong v_bestWorn v_bestMany v_soughtBy v_sought v_soughtAt v_foundMany v_foundOrder v_isKept v_imageRows v_imageColumns v_imageFolded v_imageWronged v_bodies v_ran v_ownKind v_ownNumber v_limit v_changeWas v_changeIs v_shapeRows v_shapeColumns v_row v_column v_below v_face v_worn v_lastBend v_tape v_text v_names v_bends v_high v_to v_pileSize v_planLine v_planWay v_way1 v_bestWay v_order1 v_placeIn v_bodyKind v_trace v_shelf v_many v_items v_carried) H → va_D A (wd_X9 cI cL cS cH a v_keptMany v_done v_rowsOf v_columnsOf v_folded v_wronged v_tapeMany v_textMany v_base v_at v_ends v_fault v_opened v_bentMany v_bentWrong v_moreWorn v_planned v_allWrong v_allWorn v_z v_wishedField v_isFound v_bestWrong v_bestWorn v_bestMany v_soughtBy v_sought v_soughtAt v_foundMany v_foundOrder v_isKept v_imageRows v_imageColumns v_imageFolded v_imageWronged v_bodies v_ran v_ownKind v_ownNumber v_limit v_changeWas v_changeIs v_shapeRows v_shapeColumns v_row v_column v_below v_face v_worn v_lastBend v_tape v_text v_names v_bends v_high v_to v_pileSize v_planLine v_planWay v_way1 v_bestWay v_order1 v_placeIn v_bodyKind v_trace v_shelf v_many v_items v_carried) → va_S A s.heap H locs → lv_has ls 9 [(0, .ref (a 0)), (1, .int x1), (2, .int x2), (3, .int x3), (4, .int x4)] → W p l e (mm_rr d) s m args below meth c H locs 0 0 (mm_Z below D A (wd_X9 cI cL cS cH a v_keptMany v_done v_rowsOf v_columnsOf v_folded v_wronged v_tapeMany v_textMany w_base w_at w_ends w_fault w_opened w_bentMany w_bentWrong w_moreWorn v_planned v_allWrong v_allWorn v_z v_wishedField v_isFound v_bestWrong v_bestWorn v_bestMany v_soughtBy v_sought v_soughtAt v_foundMany v_foundOrder v_isKept v_imageRows v_imageColumns v_imageFolded v_imageWronged v_bodies v_ran v_ownKind v_ownNumber v_limit v_changeWas v_changeIs v_shapeRows v_shapeColumns v_row v_column v_below v_face w_worn w_lastBend v_tape v_text w_names w_bends v_high v_to v_pileSize v_planLine v_planWay v_way1 v_bestWay v_order1 v_placeIn v_bodyKind v_trace v_shelf v_many v_items v_carried) none args s) (F0 m 18 ls [])) : ∀ (x1 : Int32) (x2 : Int32) (x3 : Int32) (x4 : Int32) (s0 : Int32) (s1 : Int32) (v_rowsOf : Int32) (v_columnsOf : Int32) (v_textMany : Int32) (v_base : Int32) (v_at : Int32) (v_ends : Int32) (v_fault : Int32) (v_opened : Int32) (v_bentMany : Int32) (v_bentWrong : Int32) (v_moreWorn : Int32) (v_limit : List Int32) (v_row : List Int32) (v_column : List Int32) (v_face : List Int32) (v_worn : List Int32) (v_lastBend : List Int32) (v_tape : List Int32) (v_text : List Int32) (v_names : List Int32) (v_bends : List Int32) (H : Heap) (locs : List Loc) (ls : Array Slot), fX9_bendsAll_53 N k_18 x1 x2 x3 x4 s0 s1 v_rowsOf v_columnsOf v_textMany v_base v_at v_ends v_fault v_opened v_bentMany v_bentWrong v_moreWorn v_limit v_row v_column v_face v_worn v_lastBend v_tape v_text v_names v_bends = some (w_base, w_at, w_ends, w_fault, w_opened, w_bentMany, w_bentWrong, w_moreWorn, w_worn, w_lastBend, w_names, w_bends) → va_P D mm_cl (wd_X9 cI cL cS cH a v_keptMany v_done v_rowsOf v_columnsOf v_folded v_wronged v_tapeMany v_textMany v_base v_at v_ends v_fault v_opened v_bentMany v_bentWrong v_moreWorn v_planned v_allWrong v_allWorn v_z v_wishedField v_isFound v_bestWrong v_bestWorn v_bestMany v_soughtBy v_sought v_soughtAt v_foundMany v_foundOrder v_isKept v_imageRows v_imageColumns v_imageFolded v_imageWronged v_bodies v_ran v_ownKind v_ownNumber v_limit v_changeWas v_changeIs v_shapeRows v_shapeColumns v_row v_column v_below v_face v_worn v_lastBend v_tape v_text v_names v_bends v_high v_to v_pileSize v_planLine v_planWay v_way1 v_bestWay v_order1 v_placeIn v_bodyKind v_trace v_shelf v_many v_items v_carried) H → va_D A (wd_X9 cI cL cS cH a v_keptMany v_done v_rowsOf v_columnsOf v_folded v_wronged v_tapeMany v_textMany v_base v_at v_ends v_fault v_opened v_bentMany v_bentWrong v_moreWorn v_planned v_allWrong v_allWorn v_z v_wishedField v_isFound v_bestWrong v_bestWorn v_bestMany v_soughtBy v_sought v_soughtAt v_foundMany v_foundOrder v_isKept v_imageRows v_imageColumns v_imageFolded v_imageWronged v_bodies v_ran v_ownKind v_ownNumber v_limit v_changeWas v_changeIs v_shapeRows v_shapeColumns v_row v_column v_below v_face v_worn v_lastBend v_tape v_text v_names v_bends v_high v_to v_pileSize v_planLine v_planWay v_way1 v_bestWay v_order1 v_placeIn v_bodyKind v_trace v_shelf v_many v_items v_carried) → va_S A s.heap H locs → lv_has ls 9 [(0, .ref (a 0)), (1, .int x1), (2, .int x2), (3, .int x3), (4, .int x4)] → W p l e (mm_rr d) s m args below meth c H locs 0 0 (mm_Z below D A (wd_X9 cI cL cS cH a v_keptMany v_done v_rowsOf v_columnsOf v_folded v_wronged v_tapeMany v_textMany w_base w_at w_ends w_fault w_opened w_bentMany w_bentWrong w_moreWorn v_planned v_allWrong v_allWorn v_z v_wishedField v_isFound v_bestWrong v_bestWorn v_bestMany v_soughtBy v_sought v_soughtAt v_foundMany v_foundOrder v_isKept v_imageRows v_imageColumns v_imageFolded v_imageWronged v_bodies v_ran v_ownKind v_ownNumber v_limit v_changeWas v_changeIs v_shapeRows v_shapeColumns v_row v_column v_below v_face w_worn w_lastBend v_tape v_text w_names w_bends v_high v_to v_pileSize v_planLine v_planWay v_way1 v_bestWay v_order1 v_placeIn v_bodyKind v_trace v_shelf v_many v_items v_carried) none args s) (F0 m 53 ls [.int s0, .int s1, .ref (a 15)]) := by
  obtain ⟨hx, hb, hml, hown, hts, hr, hlocks, hK, hSt⟩ := id C0
  intro x1 x2 x3 x4 s0 s1 v_rowsOf v_columnsOf v_textMany v_base v_at v_ends v_fault v_opened v_bentMany v_bentWrong v_moreWorn v_limit v_row v_column v_face v_worn v_lastBend v_tape v_text v_names v_bends H locs ls hf hP hD hS hl
  unfold fX9_bendsAll_53 at hf
  obtain ⟨h_7, hf⟩ := mm_cks hf
  refine mm_iast C0 hP hD hS 15 rfl h_7 dX9_bendsAll_53 (w2 := (wd_X9 cI cL cS cH a v_keptMany v_done v_rowsOf v_columnsOf v_folded v_wronged v_tapeMany v_textMany v_base v_at v_ends v_fault v_opened v_bentMany v_bentWrong v_moreWorn v_planned v_allWrong v_allWorn v_z v_wishedField v_isFound v_bestWrong v_bestWorn v_bestMany v_soughtBy v_sought v_soughtAt v_foundMany v_foundOrder v_isKept v_imageRows v_imageColumns v_imageFolded v_imageWronged v_bodies v_ran v_ownKind v_ownNumber v_limit v_changeWas v_changeIs v_shapeRows v_shapeColumns v_row v_column v_below v_face v_worn v_lastBend v_tape v_text v_names (mm_is v_bends s1 s0) v_high v_to v_pileSize v_planLine v_planWay v_way1 v_bestWay v_order1 v_placeIn v_bodyKind v_trace v_shelf v_many v_items v_carried)) rfl (fun H locs hP hD hS => ?_)
  generalize el_8 : (mm_is v_bends s1 s0) = l_8 at hP hD
  have hf := mm_nms hf el_8.symm
  refine lv_aload_n hx hb dX9_bendsAll_54 rfl (lv_at hl 0 rfl) ?_
  refine lv_dup hx hb dX9_bendsAll_55 rfl ?_
  refine mm_get C0 hP iw_X9 0 rfl rfl 28 (by decide) fl_X9_208 rfl dX9_bendsAll_56 ?_
  refine lv_aload_n hx hb dX9_bendsAll_59 rfl (lv_at hl 0 rfl) ?_
  refine mm_get C0 hP iw_X9 0 rfl rfl 27 (by decide) fl_X9_52 rfl dX9_bendsAll_60 ?_
  refine lv_iload hx hb dX9_bendsAll_63 (lv_at hl 4 rfl) ?_
  obtain ⟨h_9, hf⟩ := mm_cks hf
  refine mm_iald C0 hP 15 rfl h_9 dX9_bendsAll_65 ?_
  refine lv_if_le (tgt := 73) hx hb dX9_bendsAll_66 (by decide) (fun c_10 => ?_) (fun c_10 => ?_)
  · have hf := mm_ip hf c_10
    refine lv_iconst (v := 0) hx hb dX9_bendsAll_73 (by decide) ?_
    exact tX9_bendsAll_74 hd C0 hA N hk_18 _ _ _ _ _ _ _ _ _ _ _ _ _ _ _ _ _ _ _ _ _ _ _ _ _ _ _ H locs ls hf hP hD hS (lv_sub hl [0, 1, 2, 3, 4] rfl)
  · have hf := mm_in hf c_10
    refine lv_iconst (v := 1) hx hb dX9_bendsAll_69 (by decide) ?_
    refine lv_goto (tgt := 74) hx hb dX9_bendsAll_70 (by decide) ?_
    exact tX9_bendsAll_74 hd C0 hA N hk_18 _ _ _ _ _ _ _ _ _ _ _ _ _ _ _ _ _ _ _ _ _ _ _ _ _ _ _ H locs ls hf hP hD hS (lv_sub hl [0, 1, 2, 3, 4] rfl)

def fX9_bendsAll_250 (N : Nat) (k_87 : Int32 → Int32 → Int32 → Int32 → Int32 → Int32 → Int32 → Int32 → Int32 → Int32 → Int32 → Int32 → Int32 → List Int32 → List Int32 → List Int32 → List Int32 → List Int32 → List Int32 → List Int32 → List Int32 → List Int32 → List Int32 → Option (Int32 × Int32 × Int32 × Int32 × Int32 × Int32 × Int32 × Int32 × List Int32 × List Int32 × List Int32 × List Int32)) (x1 : Int32) (x4 : Int32) (v_rowsOf : Int32) (v_columnsOf : Int32) (v_textMany : Int32) (v_base : Int32) (v_at : Int32) (v_ends : Int32) (v_fault : Int32) (v_opened : Int32) (v_bentMany : Int32) (v_bentWrong : Int32) (v_moreWorn : Int32) (v_limit : List Int32) (v_row : List Int32) (v_column : List Int32) (v_face : List Int32) (v_worn : List Int32) (v_lastBend : List Int32) (v_tape : List Int32) (v_text : List Int32) (v_names : List Int32) (v_bends : List Int32) : Option (Int32 × Int32 × Int32 × Int32 × Int32 × Int32 × Int32 × Int32 × List Int32 × List Int32 × List Int32 × List Int32) :=
    mm_nm (x4 + (1 : Int32)) (fun (y_22 : Int32) =>
    k_87 x1 y_22 v_rowsOf v_columnsOf v_textMany v_base v_at v_ends v_fault v_opened v_bentMany v_bentWrong v_moreWorn v_limit v_row v_column v_face v_worn v_lastBend v_tape v_text v_names v_bends)

set_option maxHeartbeats 4000000 in
set_option maxRecDepth 100000 in
theorem tX9_bendsAll_250 {p : Program} {l : Launch} {e : Env} {s : State} {m : MethodId} {args : Array Value} {below : List Frame} {meth : Method} {c : Code} {D : va_G} {cI cL cS cH : ClassId} {A : Nat → Prop} {d : Nat} {a : Nat → Nat} (hd : 58 ≤ d) (C0 : mm_Cx p s m args meth c RX9 cX9_bendsAll 9 none D (mm_T cI cL cS cH) A) (hA : ∀ q, s.heap.size ≤ q → A q) {v_keptMany : Int32} {v_done : Int32} {v_folded : Int32} {v_wronged : Int32} {v_tapeMany : Int32} {v_planned : Int32} {v_allWrong : Int32} {v_allWorn : Int32} {v_z : Int32} {v_wishedField : Int32} {v_isFound : Bool} {v_bestWrong : Int32} {v_bestWorn : Int32} {v_bestMany : Int32} {v_soughtBy : Int32} {v_sought : Int32} {v_soughtAt : Int32} {v_foundMany : Int32} {v_foundOrder : Int32} {v_isKept : Bool} {v_imageRows : Int32} {v_imageColumns : Int32} {v_imageFolded : Int32} {v_imageWronged : Int32} {v_bodies : Int32} {v_ran : Int32} {v_ownKind : Int32} {v_ownNumber : Int32} {v_changeWas : List Int32} {v_changeIs : List Int32} {v_shapeRows : List Int32} {v_shapeColumns : List Int32} {v_below : List Int32} {v_high : List Int32} {v_to : List Int32} {v_pileSize : List Int32} {v_planLine : List Int32} {v_planWay : List Int32} {v_way1 : List Int32} {v_bestWay : List Int32} {v_order1 : List Int32} {v_placeIn : List Int32} {v_bodyKind : List Int32} {v_trace : List Int32} {v_shelf : List Int32} {v_many : List Int32} {v_items : List Int64} {v_carried : List Int64} {w_base : Int32} {w_at : Int32} {w_ends : Int32} {w_fault : Int32} {w_opened : Int32} {w_bentMany : Int32} {w_bentWrong : Int32} {w_moreWorn : Int32} {w_worn : List Int32} {w_lastBend : List Int32} {w_names : List Int32} {w_bends : List Int32} (N : Nat) {k_87 : Int32 → Int32 → Int32 → Int32 → Int32 → Int32 → Int32 → Int32 → Int32 → Int32 → Int32 → Int32 → Int32 → List Int32 → List Int32 → List Int32 → List Int32 → List Int32 → List Int32 → List Int32 → List Int32 → List Int32 → List Int32 → Option (Int32 × Int32 × Int32 × Int32 × Int32 × Int32 × Int32 × Int32 × List Int32 × List Int32 × List Int32 × List Int32)} (hk_87 : ∀ (x1 : Int32) (x4 : Int32) (v_rowsOf : Int32) (v_columnsOf : Int32) (v_textMany : Int32) (v_base : Int32) (v_at : Int32) (v_ends : Int32) (v_fault : Int32) (v_opened : Int32) (v_bentMany : Int32) (v_bentWrong : Int32) (v_moreWorn : Int32) (v_limit : List Int32) (v_row : List Int32) (v_column : List Int32) (v_face : List Int32) (v_worn : List Int32) (v_lastBend : List Int32) (v_tape : List Int32) (v_text : List Int32) (v_names : List Int32) (v_bends : List Int32) (H : Heap) (locs : List Loc) (ls : Array Slot), k_87 x1 x4 v_rowsOf v_columnsOf v_textMany v_base v_at v_ends v_fault v_opened v_bentMany v_bentWrong v_moreWorn v_limit v_row v_column v_face v_worn v_lastBend v_tape v_text v_names v_bends = some (w_base, w_at, w_ends, w_fault, w_opened, w_bentMany, w_bentWrong, w_moreWorn, w_worn, w_lastBend, w_names, w_bends) → va_P D mm_cl (wd_X9 cI cL cS cH a v_keptMany v_done v_rowsOf v_columnsOf v_folded v_wronged v_tapeMany v_textMany v_base v_at v_ends v_fault v_opened v_bentMany v_bentWrong v_moreWorn v_planned v_allWrong v_allWorn v_z v_wishedField v_isFound v_bestWrong v_bestWorn v_bestMany v_soughtBy v_sought v_soughtAt v_foundMany v_foundOrder v_isKept v_imageRows v_imageColumns v_imageFolded v_imageWronged v_bodies v_ran v_ownKind v_ownNumber v_limit v_changeWas v_changeIs v_shapeRows v_shapeColumns v_row v_column v_below v_face v_worn v_lastBend v_tape v_text v_names v_bends v_high v_to v_pileSize v_planLine v_planWay v_way1 v_bestWay v_order1 v_placeIn v_bodyKind v_trace v_shelf v_many v_items v_carried) H → va_D A (wd_X9 cI cL cS cH a v_keptMany v_done v_rowsOf v_columnsOf v_folded v_wronged v_tapeMany v_textMany v_base v_at v_ends v_fault v_opened v_bentMany v_bentWrong v_moreWorn v_planned v_allWrong v_allWorn v_z v_wishedField v_isFound v_bestWrong v_bestWorn v_bestMany v_soughtBy v_sought v_soughtAt v_foundMany v_foundOrder v_isKept v_imageRows v_imageColumns v_imageFolded v_imageWronged v_bodies v_ran v_ownKind v_ownNumber v_limit v_changeWas v_changeIs v_shapeRows v_shapeColumns v_row v_column v_below v_face v_worn v_lastBend v_tape v_text v_names v_bends v_high v_to v_pileSize v_planLine v_planWay v_way1 v_bestWay v_order1 v_placeIn v_bodyKind v_trace v_shelf v_many v_items v_carried) → va_S A s.heap H locs → lv_has ls 9 [(0, .ref (a 0)), (1, .int x1), (4, .int x4)] → W p l e (mm_rr d) s m args below meth c H locs 0 0 (mm_Z below D A (wd_X9 cI cL cS cH a v_keptMany v_done v_rowsOf v_columnsOf v_folded v_wronged v_tapeMany v_textMany w_base w_at w_ends w_fault w_opened w_bentMany w_bentWrong w_moreWorn v_planned v_allWrong v_allWorn v_z v_wishedField v_isFound v_bestWrong v_bestWorn v_bestMany v_soughtBy v_sought v_soughtAt v_foundMany v_foundOrder v_isKept v_imageRows v_imageColumns v_imageFolded v_imageWronged v_bodies v_ran v_ownKind v_ownNumber v_limit v_changeWas v_changeIs v_shapeRows v_shapeColumns v_row v_column v_below v_face w_worn w_lastBend v_tape v_text w_names w_bends v_high v_to v_pileSize v_planLine v_planWay v_way1 v_bestWay v_order1 v_placeIn v_bodyKind v_trace v_shelf v_many v_items v_carried) none args s) (F0 m 87 ls [])) : ∀ (x1 : Int32) (x4 : Int32) (v_rowsOf : Int32) (v_columnsOf : Int32) (v_textMany : Int32) (v_base : Int32) (v_at : Int32) (v_ends : Int32) (v_fault : Int32) (v_opened : Int32) (v_bentMany : Int32) (v_bentWrong : Int32) (v_moreWorn : Int32) (v_limit : List Int32) (v_row : List Int32) (v_column : List Int32) (v_face : List Int32) (v_worn : List Int32) (v_lastBend : List Int32) (v_tape : List Int32) (v_text : List Int32) (v_names : List Int32) (v_bends : List Int32) (H : Heap) (locs : List Loc) (ls : Array Slot), fX9_bendsAll_250 N k_87 x1 x4 v_rowsOf v_columnsOf v_textMany v_base v_at v_ends v_fault v_opened v_bentMany v_bentWrong v_moreWorn v_limit v_row v_column v_face v_worn v_lastBend v_tape v_text v_names v_bends = some (w_base, w_at, w_ends, w_fault, w_opened, w_bentMany, w_bentWrong, w_moreWorn, w_worn, w_lastBend, w_names, w_bends) → va_P D mm_cl (wd_X9 cI cL cS cH a v_keptMany v_done v_rowsOf v_columnsOf v_folded v_wronged v_tapeMany v_textMany v_base v_at v_ends v_fault v_opened v_bentMany v_bentWrong v_moreWorn v_planned v_allWrong v_allWorn v_z v_wishedField v_isFound v_bestWrong v_bestWorn v_bestMany v_soughtBy v_sought v_soughtAt v_foundMany v_foundOrder v_isKept v_imageRows v_imageColumns v_imageFolded v_imageWronged v_bodies v_ran v_ownKind v_ownNumber v_limit v_changeWas v_changeIs v_shapeRows v_shapeColumns v_row v_column v_below v_face v_worn v_lastBend v_tape v_text v_names v_bends v_high v_to v_pileSize v_planLine v_planWay v_way1 v_bestWay v_order1 v_placeIn v_bodyKind v_trace v_shelf v_many v_items v_carried) H → va_D A (wd_X9 cI cL cS cH a v_keptMany v_done v_rowsOf v_columnsOf v_folded v_wronged v_tapeMany v_textMany v_base v_at v_ends v_fault v_opened v_bentMany v_bentWrong v_moreWorn v_planned v_allWrong v_allWorn v_z v_wishedField v_isFound v_bestWrong v_bestWorn v_bestMany v_soughtBy v_sought v_soughtAt v_foundMany v_foundOrder v_isKept v_imageRows v_imageColumns v_imageFolded v_imageWronged v_bodies v_ran v_ownKind v_ownNumber v_limit v_changeWas v_changeIs v_shapeRows v_shapeColumns v_row v_column v_below v_face v_worn v_lastBend v_tape v_text v_names v_bends v_high v_to v_pileSize v_planLine v_planWay v_way1 v_bestWay v_order1 v_placeIn v_bodyKind v_trace v_shelf v_many v_items v_carried) → va_S A s.heap H locs → lv_has ls 9 [(0, .ref (a 0)), (1, .int x1), (4, .int x4)] → W p l e (mm_rr d) s m args below meth c H locs 0 0 (mm_Z below D A (wd_X9 cI cL cS cH a v_keptMany v_done v_rowsOf v_columnsOf v_folded v_wronged v_tapeMany v_textMany w_base w_at w_ends w_fault w_opened w_bentMany w_bentWrong w_moreWorn v_planned v_allWrong v_allWorn v_z v_wishedField v_isFound v_bestWrong v_bestWorn v_bestMany v_soughtBy v_sought v_soughtAt v_foundMany v_foundOrder v_isKept v_imageRows v_imageColumns v_imageFolded v_imageWronged v_bodies v_ran v_ownKind v_ownNumber v_limit v_changeWas v_changeIs v_shapeRows v_shapeColumns v_row v_column v_below v_face w_worn w_lastBend v_tape v_text w_names w_bends v_high v_to v_pileSize v_planLine v_planWay v_way1 v_bestWay v_order1 v_placeIn v_bodyKind v_trace v_shelf v_many v_items v_carried) none args s) (F0 m 250 ls []) := by
  obtain ⟨hx, hb, hml, hown, hts, hr, hlocks, hK, hSt⟩ := id C0
  intro x1 x4 v_rowsOf v_columnsOf v_textMany v_base v_at v_ends v_fault v_opened v_bentMany v_bentWrong v_moreWorn v_limit v_row v_column v_face v_worn v_lastBend v_tape v_text v_names v_bends H locs ls hf hP hD hS hl
  unfold fX9_bendsAll_250 at hf
  obtain ⟨y_22, ey_22⟩ : ∃ z : Int32, z = x4 + (1 : Int32) := ⟨_, rfl⟩
  have hf := mm_nms hf ey_22
  refine lv_iinc (v := y_22) (lv' := [(4, .int y_22), (0, .ref (a 0)), (1, .int x1)]) hx hb dX9_bendsAll_250 hl (k := 2) rfl (by rw [ey_22]; rfl) (by decide) rfl (fun ls hl => ?_)
  refine lv_goto (tgt := 87) hx hb dX9_bendsAll_253 (by decide) ?_
  exact hk_87 _ _ _ _ _ _ _ _ _ _ _ _ _ _ _ _ _ _ _ _ _ _ _ H locs ls hf hP hD hS (lv_sub hl [1, 2, 0] rfl)

def fX9_bendsAll_205 (N : Nat) (k_87 : Int32 → Int32 → Int32 → Int32 → Int32 → Int32 → Int32 → Int32 → Int32 → Int32 → Int32 → Int32 → Int32 → List Int32 → List Int32 → List Int32 → List Int32 → List Int32 → List Int32 → List Int32 → List Int32 → List Int32 → List Int32 → Option (Int32 × Int32 × Int32 × Int32 × Int32 × Int32 × Int32 × Int32 × List Int32 × List Int32 × List Int32 × List Int32)) (x1 : Int32) (x4 : Int32) (x5 : Int32) (x6 : Int32) (x7 : Int32) (s0 : Int32) (s1 : Int32) (v_rowsOf : Int32) (v_columnsOf : Int32) (v_textMany : Int32) (v_base : Int32) (v_at : Int32) (v_ends : Int32) (v_fault : Int32) (v_opened : Int32) (v_bentMany : Int32) (v_bentWrong : Int32) (v_moreWorn : Int32) (v_limit : List Int32) (v_row : List Int32) (v_column : List Int32) (v_face : List Int32) (v_worn : List Int32) (v_lastBend : List Int32) (v_tape : List Int32) (v_text : List Int32) (v_names : List Int32) (v_bends : List Int32) : Option (Int32 × Int32 × Int32 × Int32 × Int32 × Int32 × Int32 × Int32 × List Int32 × List Int32 × List Int32 × List Int32) :=
    mm_ck (mm_inb s1 v_worn.length) (mm_nm (mm_is v_worn s1 s0) (fun (l_37 : List Int32) =>
    mm_ck (mm_inb x4 v_bends.length) (mm_nm ((mm_ig v_bends x4)) (fun (y_39 : Int32) =>
    mm_ck (mm_inb x5 v_lastBend.length) (mm_nm (mm_is v_lastBend x5 y_39) (fun (l_41 : List Int32) =>
    mm_nm ((v_bentWrong + x6)) (fun (y_42 : Int32) =>
    mm_ck (mm_inb x5 l_37.length) (mm_nm ((v_moreWorn + ((mm_ig l_37 x5) - x7))) (fun (y_44 : Int32) =>
    fX9_bendsAll_250 N k_87 x1 x4 v_rowsOf v_columnsOf v_textMany v_base v_at v_ends v_fault v_opened v_bentMany y_42 y_44 v_limit v_row v_column v_face l_37 l_41 v_tape v_text v_names v_bends)))))))))

set_option maxHeartbeats 4000000 in
set_option maxRecDepth 100000 in
theorem tX9_bendsAll_205 {p : Program} {l : Launch} {e : Env} {s : State} {m : MethodId} {args : Array Value} {below : List Frame} {meth : Method} {c : Code} {D : va_G} {cI cL cS cH : ClassId} {A : Nat → Prop} {d : Nat} {a : Nat → Nat} (hd : 58 ≤ d) (C0 : mm_Cx p s m args meth c RX9 cX9_bendsAll 9 none D (mm_T cI cL cS cH) A) (hA : ∀ q, s.heap.size ≤ q → A q) {v_keptMany : Int32} {v_done : Int32} {v_folded : Int32} {v_wronged : Int32} {v_tapeMany : Int32} {v_planned : Int32} {v_allWrong : Int32} {v_allWorn : Int32} {v_z : Int32} {v_wishedField : Int32} {v_isFound : Bool} {v_bestWrong : Int32} {v_bestWorn : Int32} {v_bestMany : Int32} {v_soughtBy : Int32} {v_sought : Int32} {v_soughtAt : Int32} {v_foundMany : Int32} {v_foundOrder : Int32} {v_isKept : Bool} {v_imageRows : Int32} {v_imageColumns : Int32} {v_imageFolded : Int32} {v_imageWronged : Int32} {v_bodies : Int32} {v_ran : Int32} {v_ownKind : Int32} {v_ownNumber : Int32} {v_changeWas : List Int32} {v_changeIs : List Int32} {v_shapeRows : List Int32} {v_shapeColumns : List Int32} {v_below : List Int32} {v_high : List Int32} {v_to : List Int32} {v_pileSize : List Int32} {v_planLine : List Int32} {v_planWay : List Int32} {v_way1 : List Int32} {v_bestWay : List Int32} {v_order1 : List Int32} {v_placeIn : List Int32} {v_bodyKind : List Int32} {v_trace : List Int32} {v_shelf : List Int32} {v_many : List Int32} {v_items : List Int64} {v_carried : List Int64} {w_base : Int32} {w_at : Int32} {w_ends : Int32} {w_fault : Int32} {w_opened : Int32} {w_bentMany : Int32} {w_bentWrong : Int32} {w_moreWorn : Int32} {w_worn : List Int32} {w_lastBend : List Int32} {w_names : List Int32} {w_bends : List Int32} (N : Nat) {k_87 : Int32 → Int32 → Int32 → Int32 → Int32 → Int32 → Int32 → Int32 → Int32 → Int32 → Int32 → Int32 → Int32 → List Int32 → List Int32 → List Int32 → List Int32 → List Int32 → List Int32 → List Int32 → List Int32 → List Int32 → List Int32 → Option (Int32 × Int32 × Int32 × Int32 × Int32 × Int32 × Int32 × Int32 × List Int32 × List Int32 × List Int32 × List Int32)} (hk_87 : ∀ (x1 : Int32) (x4 : Int32) (v_rowsOf : Int32) (v_columnsOf : Int32) (v_textMany : Int32) (v_base : Int32) (v_at : Int32) (v_ends : Int32) (v_fault : Int32) (v_opened : Int32) (v_bentMany : Int32) (v_bentWrong : Int32) (v_moreWorn : Int32) (v_limit : List Int32) (v_row : List Int32) (v_column : List Int32) (v_face : List Int32) (v_worn : List Int32) (v_lastBend : List Int32) (v_tape : List Int32) (v_text : List Int32) (v_names : List Int32) (v_bends : List Int32) (H : Heap) (locs : List Loc) (ls : Array Slot), k_87 x1 x4 v_rowsOf v_columnsOf v_textMany v_base v_at v_ends v_fault v_opened v_bentMany v_bentWrong v_moreWorn v_limit v_row v_column v_face v_worn v_lastBend v_tape v_text v_names v_bends = some (w_base, w_at, w_ends, w_fault, w_opened, w_bentMany, w_bentWrong, w_moreWorn, w_worn, w_lastBend, w_names, w_bends) → va_P D mm_cl (wd_X9 cI cL cS cH a v_keptMany v_done v_rowsOf v_columnsOf v_folded v_wronged v_tapeMany v_textMany v_base v_at v_ends v_fault v_opened v_bentMany v_bentWrong v_moreWorn v_planned v_allWrong v_allWorn v_z v_wishedField v_isFound v_bestWrong v_bestWorn v_bestMany v_soughtBy v_sought v_soughtAt v_foundMany v_foundOrder v_isKept v_imageRows v_imageColumns v_imageFolded v_imageWronged v_bodies v_ran v_ownKind v_ownNumber v_limit v_changeWas v_changeIs v_shapeRows v_shapeColumns v_row v_column v_below v_face v_worn v_lastBend v_tape v_text v_names v_bends v_high v_to v_pileSize v_planLine v_planWay v_way1 v_bestWay v_order1 v_placeIn v_bodyKind v_trace v_shelf v_many v_items v_carried) H → va_D A (wd_X9 cI cL cS cH a v_keptMany v_done v_rowsOf v_columnsOf v_folded v_wronged v_tapeMany v_textMany v_base v_at v_ends v_fault v_opened v_bentMany v_bentWrong v_moreWorn v_planned v_allWrong v_allWorn v_z v_wishedField v_isFound v_bestWrong v_bestWorn v_bestMany v_soughtBy v_sought v_soughtAt v_foundMany v_foundOrder v_isKept v_imageRows v_imageColumns v_imageFolded v_imageWronged v_bodies v_ran v_ownKind v_ownNumber v_limit v_changeWas v_changeIs v_shapeRows v_shapeColumns v_row v_column v_below v_face v_worn v_lastBend v_tape v_text v_names v_bends v_high v_to v_pileSize v_planLine v_planWay v_way1 v_bestWay v_order1 v_placeIn v_bodyKind v_trace v_shelf v_many v_items v_carried) → va_S A s.heap H locs → lv_has ls 9 [(0, .ref (a 0)), (1, .int x1), (4, .int x4)] → W p l e (mm_rr d) s m args below meth c H locs 0 0 (mm_Z below D A (wd_X9 cI cL cS cH a v_keptMany v_done v_rowsOf v_columnsOf v_folded v_wronged v_tapeMany v_textMany w_base w_at w_ends w_fault w_opened w_bentMany w_bentWrong w_moreWorn v_planned v_allWrong v_allWorn v_z v_wishedField v_isFound v_bestWrong v_bestWorn v_bestMany v_soughtBy v_sought v_soughtAt v_foundMany v_foundOrder v_isKept v_imageRows v_imageColumns v_imageFolded v_imageWronged v_bodies v_ran v_ownKind v_ownNumber v_limit v_changeWas v_changeIs v_shapeRows v_shapeColumns v_row v_column v_below v_face w_worn w_lastBend v_tape v_text w_names w_bends v_high v_to v_pileSize v_planLine v_planWay v_way1 v_bestWay v_order1 v_placeIn v_bodyKind v_trace v_shelf v_many v_items v_carried) none args s) (F0 m 87 ls [])) : ∀ (x1 : Int32) (x4 : Int32) (x5 : Int32) (x6 : Int32) (x7 : Int32) (s0 : Int32) (s1 : Int32) (v_rowsOf : Int32) (v_columnsOf : Int32) (v_textMany : Int32) (v_base : Int32) (v_at : Int32) (v_ends : Int32) (v_fault : Int32) (v_opened : Int32) (v_bentMany : Int32) (v_bentWrong : Int32) (v_moreWorn : Int32) (v_limit : List Int32) (v_row : List Int32) (v_column : List Int32) (v_face : List Int32) (v_worn : List Int32) (v_lastBend : List Int32) (v_tape : List Int32) (v_text : List Int32) (v_names : List Int32) (v_bends : List Int32) (H : Heap) (locs : List Loc) (ls : Array Slot), fX9_bendsAll_205 N k_87 x1 x4 x5 x6 x7 s0 s1 v_rowsOf v_columnsOf v_textMany v_base v_at v_ends v_fault v_opened v_bentMany v_bentWrong v_moreWorn v_limit v_row v_column v_face v_worn v_lastBend v_tape v_text v_names v_bends = some (w_base, w_at, w_ends, w_fault, w_opened, w_bentMany, w_bentWrong, w_moreWorn, w_worn, w_lastBend, w_names, w_bends) → va_P D mm_cl (wd_X9 cI cL cS cH a v_keptMany v_done v_rowsOf v_columnsOf v_folded v_wronged v_tapeMany v_textMany v_base v_at v_ends v_fault v_opened v_bentMany v_bentWrong v_moreWorn v_planned v_allWrong v_allWorn v_z v_wishedField v_isFound v_bestWrong v_bestWorn v_bestMany v_soughtBy v_sought v_soughtAt v_foundMany v_foundOrder v_isKept v_imageRows v_imageColumns v_imageFolded v_imageWronged v_bodies v_ran v_ownKind v_ownNumber v_limit v_changeWas v_changeIs v_shapeRows v_shapeColumns v_row v_column v_below v_face v_worn v_lastBend v_tape v_text v_names v_bends v_high v_to v_pileSize v_planLine v_planWay v_way1 v_bestWay v_order1 v_placeIn v_bodyKind v_trace v_shelf v_many v_items v_carried) H → va_D A (wd_X9 cI cL cS cH a v_keptMany v_done v_rowsOf v_columnsOf v_folded v_wronged v_tapeMany v_textMany v_base v_at v_ends v_fault v_opened v_bentMany v_bentWrong v_moreWorn v_planned v_allWrong v_allWorn v_z v_wishedField v_isFound v_bestWrong v_bestWorn v_bestMany v_soughtBy v_sought v_soughtAt v_foundMany v_foundOrder v_isKept v_imageRows v_imageColumns v_imageFolded v_imageWronged v_bodies v_ran v_ownKind v_ownNumber v_limit v_changeWas v_changeIs v_shapeRows v_shapeColumns v_row v_column v_below v_face v_worn v_lastBend v_tape v_text v_names v_bends v_high v_to v_pileSize v_planLine v_planWay v_way1 v_bestWay v_order1 v_placeIn v_bodyKind v_trace v_shelf v_many v_items v_carried) → va_S A s.heap H locs → lv_has ls 9 [(0, .ref (a 0)), (1, .int x1), (4, .int x4), (5, .int x5), (6, .int x6), (7, .int x7)] → W p l e (mm_rr d) s m args below meth c H locs 0 0 (mm_Z below D A (wd_X9 cI cL cS cH a v_keptMany v_done v_rowsOf v_columnsOf v_folded v_wronged v_tapeMany v_textMany w_base w_at w_ends w_fault w_opened w_bentMany w_bentWrong w_moreWorn v_planned v_allWrong v_allWorn v_z v_wishedField v_isFound v_bestWrong v_bestWorn v_bestMany v_soughtBy v_sought v_soughtAt v_foundMany v_foundOrder v_isKept v_imageRows v_imageColumns v_imageFolded v_imageWronged v_bodies v_ran v_ownKind v_ownNumber v_limit v_changeWas v_changeIs v_shapeRows v_shapeColumns v_row v_column v_below v_face w_worn w_lastBend v_tape v_text w_names w_bends v_high v_to v_pileSize v_planLine v_planWay v_way1 v_bestWay v_order1 v_placeIn v_bodyKind v_trace v_shelf v_many v_items v_carried) none args s) (F0 m 205 ls [.int s0, .int s1, .ref (a 10)]) := by
  obtain ⟨hx, hb, hml, hown, hts, hr, hlocks, hK, hSt⟩ := id C0
  intro x1 x4 x5 x6 x7 s0 s1 v_rowsOf v_columnsOf v_textMany v_base v_at v_ends v_fault v_opened v_bentMany v_bentWrong v_moreWorn v_limit v_row v_column v_face v_worn v_lastBend v_tape v_text v_names v_bends H locs ls hf hP hD hS hl
  unfold fX9_bendsAll_205 at hf
  obtain ⟨h_36, hf⟩ := mm_cks hf
  refine mm_iast C0 hP hD hS 10 rfl h_36 dX9_bendsAll_205 (w2 := (wd_X9 cI cL cS cH a v_keptMany v_done v_rowsOf v_columnsOf v_folded v_wronged v_tapeMany v_textMany v_base v_at v_ends v_fault v_opened v_bentMany v_bentWrong v_moreWorn v_planned v_allWrong v_allWorn v_z v_wishedField v_isFound v_bestWrong v_bestWorn v_bestMany v_soughtBy v_sought v_soughtAt v_foundMany v_foundOrder v_isKept v_imageRows v_imageColumns v_imageFolded v_imageWronged v_bodies v_ran v_ownKind v_ownNumber v_limit v_changeWas v_changeIs v_shapeRows v_shapeColumns v_row v_column v_below v_face (mm_is v_worn s1 s0) v_lastBend v_tape v_text v_names v_bends v_high v_to v_pileSize v_planLine v_planWay v_way1 v_bestWay v_order1 v_placeIn v_bodyKind v_trace v_shelf v_many v_items v_carried)) rfl (fun H locs hP hD hS => ?_)
  generalize el_37 : (mm_is v_worn s1 s0) = l_37 at hP hD
  have hf := mm_nms hf el_37.symm
  refine lv_aload_n hx hb dX9_bendsAll_206 rfl (lv_at hl 0 rfl) ?_
  refine mm_get C0 hP iw_X9 0 rfl rfl 14 (by decide) fl_X9_40 rfl dX9_bendsAll_207 ?_
  refine lv_iload hx hb dX9_bendsAll_210 (lv_at hl 3 rfl) ?_
  refine lv_aload_n hx hb dX9_bendsAll_212 rfl (lv_at hl 0 rfl) ?_
  refine mm_get C0 hP iw_X9 0 rfl rfl 27 (by decide) fl_X9_52 rfl dX9_bendsAll_213 ?_
  refine lv_iload hx hb dX9_bendsAll_216 (lv_at hl 2 rfl) ?_
  obtain ⟨h_38, hf⟩ := mm_cks hf
  refine mm_iald C0 hP 15 rfl h_38 dX9_bendsAll_218 ?_
  refine lv_topi (fun y_39 ey_39 => ?_)
  have hf := mm_nms hf ey_39
  obtain ⟨h_40, hf⟩ := mm_cks hf
  refine mm_iast C0 hP hD hS 11 rfl h_40 dX9_bendsAll_219 (w2 := (wd_X9 cI cL cS cH a v_keptMany v_done v_rowsOf v_columnsOf v_folded v_wronged v_tapeMany v_textMany v_base v_at v_ends v_fault v_opened v_bentMany v_bentWrong v_moreWorn v_planned v_allWrong v_allWorn v_z v_wishedField v_isFound v_bestWrong v_bestWorn v_bestMany v_soughtBy v_sought v_soughtAt v_foundMany v_foundOrder v_isKept v_imageRows v_imageColumns v_imageFolded v_imageWronged v_bodies v_ran v_ownKind v_ownNumber v_limit v_changeWas v_changeIs v_shapeRows v_shapeColumns v_row v_column v_below v_face l_37 (mm_is v_lastBend x5 y_39) v_tape v_text v_names v_bends v_high v_to v_pileSize v_planLine v_planWay v_way1 v_bestWay v_order1 v_placeIn v_bodyKind v_trace v_shelf v_many v_items v_carried)) rfl (fun H locs hP hD hS => ?_)
  generalize el_41 : (mm_is v_lastBend x5 y_39) = l_41 at hP hD
  have hf := mm_nms hf el_41.symm
  refine lv_aload_n hx hb dX9_bendsAll_220 rfl (lv_at hl 0 rfl) ?_
  refine lv_dup hx hb dX9_bendsAll_221 rfl ?_
  refine mm_get C0 hP iw_X9 0 rfl rfl 29 (by decide) fl_X9_211 rfl dX9_bendsAll_222 ?_
  refine lv_iload hx hb dX9_bendsAll_225 (lv_at hl 4 rfl) ?_
  refine lv_iadd hx hb dX9_bendsAll_227 ?_
  refine lv_topi (fun y_42 ey_42 => ?_)
  have hf := mm_nms hf ey_42
  refine mm_put C0 hP hD hS iw_X9 tyX9 tyX9_ok nmX9 0 rfl rfl 29 (by decide) fl_X9_211 rfl rfl rfl (Nat.le_of_ble_eq_true rfl) dX9_bendsAll_228 (w2 := (wd_X9 cI cL cS cH a v_keptMany v_done v_rowsOf v_columnsOf v_folded v_wronged v_tapeMany v_textMany v_base v_at v_ends v_fault v_opened v_bentMany y_42 v_moreWorn v_planned v_allWrong v_allWorn v_z v_wishedField v_isFound v_bestWrong v_bestWorn v_bestMany v_soughtBy v_sought v_soughtAt v_foundMany v_foundOrder v_isKept v_imageRows v_imageColumns v_imageFolded v_imageWronged v_bodies v_ran v_ownKind v_ownNumber v_limit v_changeWas v_changeIs v_shapeRows v_shapeColumns v_row v_column v_below v_face l_37 l_41 v_tape v_text v_names v_bends v_high v_to v_pileSize v_planLine v_planWay v_way1 v_bestWay v_order1 v_placeIn v_bodyKind v_trace v_shelf v_many v_items v_carried)) rfl (fun H locs hP hD hS => ?_)
  refine lv_aload_n hx hb dX9_bendsAll_231 rfl (lv_at hl 0 rfl) ?_
  refine lv_dup hx hb dX9_bendsAll_232 rfl ?_
  refine mm_get C0 hP iw_X9 0 rfl rfl 30 (by decide) fl_X9_214 rfl dX9_bendsAll_233 ?_
  refine lv_aload_n hx hb dX9_bendsAll_236 rfl (lv_at hl 0 rfl) ?_
  refine mm_get C0 hP iw_X9 0 rfl rfl 13 (by decide) fl_X9_37 rfl dX9_bendsAll_237 ?_
  refine lv_iload hx hb dX9_bendsAll_240 (lv_at hl 3 rfl) ?_
  obtain ⟨h_43, hf⟩ := mm_cks hf
  refine mm_iald C0 hP 10 rfl h_43 dX9_bendsAll_242 ?_
  refine lv_iload hx hb dX9_bendsAll_243 (lv_at hl 5 rfl) ?_
  refine lv_isub hx hb dX9_bendsAll_245 ?_
  refine lv_iadd hx hb dX9_bendsAll_246 ?_
  refine lv_topi (fun y_44 ey_44 => ?_)
  have hf := mm_nms hf ey_44
  refine mm_put C0 hP hD hS iw_X9 tyX9 tyX9_ok nmX9 0 rfl rfl 30 (by decide) fl_X9_214 rfl rfl rfl (Nat.le_of_ble_eq_true rfl) dX9_bendsAll_247 (w2 := (wd_X9 cI cL cS cH a v_keptMany v_done v_rowsOf v_columnsOf v_folded v_wronged v_tapeMany v_textMany v_base v_at v_ends v_fault v_opened v_bentMany y_42 y_44 v_planned v_allWrong v_allWorn v_z v_wishedField v_isFound v_bestWrong v_bestWorn v_bestMany v_soughtBy v_sought v_soughtAt v_foundMany v_foundOrder v_isKept v_imageRows v_imageColumns v_imageFolded v_imageWronged v_bodies v_ran v_ownKind v_ownNumber v_limit v_changeWas v_changeIs v_shapeRows v_shapeColumns v_row v_column v_below v_face l_37 l_41 v_tape v_text v_names v_bends v_high v_to v_pileSize v_planLine v_planWay v_way1 v_bestWay v_order1 v_placeIn v_bodyKind v_trace v_shelf v_many v_items v_carried)) rfl (fun H locs hP hD hS => ?_)
  exact tX9_bendsAll_250 hd C0 hA N hk_87 _ _ _ _ _ _ _ _ _ _ _ _ _ _ _ _ _ _ _ _ _ _ _ H locs ls hf hP hD hS (lv_sub hl [0, 1, 2] rfl)

def fX9_bendsAll_148 (N : Nat) (k_87 : Int32 → Int32 → Int32 → Int32 → Int32 → Int32 → Int32 → Int32 → Int32 → Int32 → Int32 → Int32 → Int32 → List Int32 → List Int32 → List Int32 → List Int32 → List Int32 → List Int32 → List Int32 → List Int32 → List Int32 → List Int32 → Option (Int32 × Int32 × Int32 × Int32 × Int32 × Int32 × Int32 × Int32 × List Int32 × List Int32 × List Int32 × List Int32)) (x1 : Int32) (x4 : Int32) (x5 : Int32) (s0 : Int32) (v_rowsOf : Int32) (v_columnsOf : Int32) (v_textMany : Int32) (v_base : Int32) (v_at : Int32) (v_ends : Int32) (v_fault : Int32) (v_opened : Int32) (v_bentMany : Int32) (v_bentWrong : Int32) (v_moreWorn : Int32) (v_limit : List Int32) (v_row : List Int32) (v_column : List Int32) (v_face : List Int32) (v_worn : List Int32) (v_lastBend : List Int32) (v_tape : List Int32) (v_text : List Int32) (v_names : List Int32) (v_bends : List Int32) : Option (Int32 × Int32 × Int32 × Int32 × Int32 × Int32 × Int32 × Int32 × List Int32 × List Int32 × List Int32 × List Int32) :=
    mm_ck (mm_inb x5 v_worn.length) (mm_nm ((mm_ig v_worn x5)) (fun (y_24 : Int32) =>
    mm_ck (mm_inb x4 v_bends.length) (mm_bd7 (fX9_wears N v_bentMany y_24 s0 x4 (mm_ig v_bends x4) v_textMany v_base v_at v_ends v_fault v_opened v_tape v_text v_names) (fun (r_26 : Int32) (w_27 : Int32) (w_28 : Int32) (w_29 : Int32) (w_30 : Int32) (w_31 : Int32) (w_32 : List Int32) =>
    mm_nm ((y_24 + r_26)) (fun (y_34 : Int32) =>
    if y_34 ≤ (99 : Int32) then
    (fX9_bendsAll_205 N k_87 x1 x4 x5 s0 y_24 y_34 x5 v_rowsOf v_columnsOf v_textMany w_27 w_28 w_29 w_30 w_31 v_bentMany v_bentWrong v_moreWorn v_limit v_row v_column v_face v_worn v_lastBend v_tape v_text w_32 v_bends)
    else (fX9_bendsAll_205 N k_87 x1 x4 x5 s0 y_24 (99 : Int32) x5 v_rowsOf v_columnsOf v_textMany w_27 w_28 w_29 w_30 w_31 v_bentMany v_bentWrong v_moreWorn v_limit v_row v_column v_face v_worn v_lastBend v_tape v_text w_32 v_bends))))))

set_option maxHeartbeats 4000000 in
set_option maxRecDepth 100000 in
theorem tX9_bendsAll_148 {p : Program} {l : Launch} {e : Env} {s : State} {m : MethodId} {args : Array Value} {below : List Frame} {meth : Method} {c : Code} {D : va_G} {cI cL cS cH : ClassId} {A : Nat → Prop} {d : Nat} {a : Nat → Nat} (hd : 58 ≤ d) (C0 : mm_Cx p s m args meth c RX9 cX9_bendsAll 9 none D (mm_T cI cL cS cH) A) (hA : ∀ q, s.heap.size ≤ q → A q) {v_keptMany : Int32} {v_done : Int32} {v_folded : Int32} {v_wronged : Int32} {v_tapeMany : Int32} {v_planned : Int32} {v_allWrong : Int32} {v_allWorn : Int32} {v_z : Int32} {v_wishedField : Int32} {v_isFound : Bool} {v_bestWrong : Int32} {v_bestWorn : Int32} {v_bestMany : Int32} {v_soughtBy : Int32} {v_sought : Int32} {v_soughtAt : Int32} {v_foundMany : Int32} {v_foundOrder : Int32} {v_isKept : Bool} {v_imageRows : Int32} {v_imageColumns : Int32} {v_imageFolded : Int32} {v_imageWronged : Int32} {v_bodies : Int32} {v_ran : Int32} {v_ownKind : Int32} {v_ownNumber : Int32} {v_changeWas : List Int32} {v_changeIs : List Int32} {v_shapeRows : List Int32} {v_shapeColumns : List Int32} {v_below : List Int32} {v_high : List Int32} {v_to : List Int32} {v_pileSize : List Int32} {v_planLine : List Int32} {v_planWay : List Int32} {v_way1 : List Int32} {v_bestWay : List Int32} {v_order1 : List Int32} {v_placeIn : List Int32} {v_bodyKind : List Int32} {v_trace : List Int32} {v_shelf : List Int32} {v_many : List Int32} {v_items : List Int64} {v_carried : List Int64} {w_base : Int32} {w_at : Int32} {w_ends : Int32} {w_fault : Int32} {w_opened : Int32} {w_bentMany : Int32} {w_bentWrong : Int32} {w_moreWorn : Int32} {w_worn : List Int32} {w_lastBend : List Int32} {w_names : List Int32} {w_bends : List Int32} (N : Nat) {k_87 : Int32 → Int32 → Int32 → Int32 → Int32 → Int32 → Int32 → Int32 → Int32 → Int32 → Int32 → Int32 → Int32 → List Int32 → List Int32 → List Int32 → List Int32 → List Int32 → List Int32 → List Int32 → List Int32 → List Int32 → List Int32 → Option (Int32 × Int32 × Int32 × Int32 × Int32 × Int32 × Int32 × Int32 × List Int32 × List Int32 × List Int32 × List Int32)} (hk_87 : ∀ (x1 : Int32) (x4 : Int32) (v_rowsOf : Int32) (v_columnsOf : Int32) (v_textMany : Int32) (v_base : Int32) (v_at : Int32) (v_ends : Int32) (v_fault : Int32) (v_opened : Int32) (v_bentMany : Int32) (v_bentWrong : Int32) (v_moreWorn : Int32) (v_limit : List Int32) (v_row : List Int32) (v_column : List Int32) (v_face : List Int32) (v_worn : List Int32) (v_lastBend : List Int32) (v_tape : List Int32) (v_text : List Int32) (v_names : List Int32) (v_bends : List Int32) (H : Heap) (locs : List Loc) (ls : Array Slot), k_87 x1 x4 v_rowsOf v_columnsOf v_textMany v_base v_at v_ends v_fault v_opened v_bentMany v_bentWrong v_moreWorn v_limit v_row v_column v_face v_worn v_lastBend v_tape v_text v_names v_bends = some (w_base, w_at, w_ends, w_fault, w_opened, w_bentMany, w_bentWrong, w_moreWorn, w_worn, w_lastBend, w_names, w_bends) → va_P D mm_cl (wd_X9 cI cL cS cH a v_keptMany v_done v_rowsOf v_columnsOf v_folded v_wronged v_tapeMany v_textMany v_base v_at v_ends v_fault v_opened v_bentMany v_bentWrong v_moreWorn v_planned v_allWrong v_allWorn v_z v_wishedField v_isFound v_bestWrong v_bestWorn v_bestMany v_soughtBy v_sought v_soughtAt v_foundMany v_foundOrder v_isKept v_imageRows v_imageColumns v_imageFolded v_imageWronged v_bodies v_ran v_ownKind v_ownNumber v_limit v_changeWas v_changeIs v_shapeRows v_shapeColumns v_row v_column v_below v_face v_worn v_lastBend v_tape v_text v_names v_bends v_high v_to v_pileSize v_planLine v_planWay v_way1 v_bestWay v_order1 v_placeIn v_bodyKind v_trace v_shelf v_many v_items v_carried) H → va_D A (wd_X9 cI cL cS cH a v_keptMany v_done v_rowsOf v_columnsOf v_folded v_wronged v_tapeMany v_textMany v_base v_at v_ends v_fault v_opened v_bentMany v_bentWrong v_moreWorn v_planned v_allWrong v_allWorn v_z v_wishedField v_isFound v_bestWrong v_bestWorn v_bestMany v_soughtBy v_sought v_soughtAt v_foundMany v_foundOrder v_isKept v_imageRows v_imageColumns v_imageFolded v_imageWronged v_bodies v_ran v_ownKind v_ownNumber v_limit v_changeWas v_changeIs v_shapeRows v_shapeColumns v_row v_column v_below v_face v_worn v_lastBend v_tape v_text v_names v_bends v_high v_to v_pileSize v_planLine v_planWay v_way1 v_bestWay v_order1 v_placeIn v_bodyKind v_trace v_shelf v_many v_items v_carried) → va_S A s.heap H locs → lv_has ls 9 [(0, .ref (a 0)), (1, .int x1), (4, .int x4)] → W p l e (mm_rr d) s m args below meth c H locs 0 0 (mm_Z below D A (wd_X9 cI cL cS cH a v_keptMany v_done v_rowsOf v_columnsOf v_folded v_wronged v_tapeMany v_textMany w_base w_at w_ends w_fault w_opened w_bentMany w_bentWrong w_moreWorn v_planned v_allWrong v_allWorn v_z v_wishedField v_isFound v_bestWrong v_bestWorn v_bestMany v_soughtBy v_sought v_soughtAt v_foundMany v_foundOrder v_isKept v_imageRows v_imageColumns v_imageFolded v_imageWronged v_bodies v_ran v_ownKind v_ownNumber v_limit v_changeWas v_changeIs v_shapeRows v_shapeColumns v_row v_column v_below v_face w_worn w_lastBend v_tape v_text w_names w_bends v_high v_to v_pileSize v_planLine v_planWay v_way1 v_bestWay v_order1 v_placeIn v_bodyKind v_trace v_shelf v_many v_items v_carried) none args s) (F0 m 87 ls [])) : ∀ (x1 : Int32) (x4 : Int32) (x5 : Int32) (s0 : Int32) (v_rowsOf : Int32) (v_columnsOf : Int32) (v_textMany : Int32) (v_base : Int32) (v_at : Int32) (v_ends : Int32) (v_fault : Int32) (v_opened : Int32) (v_bentMany : Int32) (v_bentWrong : Int32) (v_moreWorn : Int32) (v_limit : List Int32) (v_row : List Int32) (v_column : List Int32) (v_face : List Int32) (v_worn : List Int32) (v_lastBend : List Int32) (v_tape : List Int32) (v_text : List Int32) (v_names : List Int32) (v_bends : List Int32) (H : Heap) (locs : List Loc) (ls : Array Slot), fX9_bendsAll_148 N k_87 x1 x4 x5 s0 v_rowsOf v_columnsOf v_textMany v_base v_at v_ends v_fault v_opened v_bentMany v_bentWrong v_moreWorn v_limit v_row v_column v_face v_worn v_lastBend v_tape v_text v_names v_bends = some (w_base, w_at, w_ends, w_fault, w_opened, w_bentMany, w_bentWrong, w_moreWorn, w_worn, w_lastBend, w_names, w_bends) → va_P D mm_cl (wd_X9 cI cL cS cH a v_keptMany v_done v_rowsOf v_columnsOf v_folded v_wronged v_tapeMany v_textMany v_base v_at v_ends v_fault v_opened v_bentMany v_bentWrong v_moreWorn v_planned v_allWrong v_allWorn v_z v_wishedField v_isFound v_bestWrong v_bestWorn v_bestMany v_soughtBy v_sought v_soughtAt v_foundMany v_foundOrder v_isKept v_imageRows v_imageColumns v_imageFolded v_imageWronged v_bodies v_ran v_ownKind v_ownNumber v_limit v_changeWas v_changeIs v_shapeRows v_shapeColumns v_row v_column v_below v_face v_worn v_lastBend v_tape v_text v_names v_bends v_high v_to v_pileSize v_planLine v_planWay v_way1 v_bestWay v_order1 v_placeIn v_bodyKind v_trace v_shelf v_many v_items v_carried) H → va_D A (wd_X9 cI cL cS cH a v_keptMany v_done v_rowsOf v_columnsOf v_folded v_wronged v_tapeMany v_textMany v_base v_at v_ends v_fault v_opened v_bentMany v_bentWrong v_moreWorn v_planned v_allWrong v_allWorn v_z v_wishedField v_isFound v_bestWrong v_bestWorn v_bestMany v_soughtBy v_sought v_soughtAt v_foundMany v_foundOrder v_isKept v_imageRows v_imageColumns v_imageFolded v_imageWronged v_bodies v_ran v_ownKind v_ownNumber v_limit v_changeWas v_changeIs v_shapeRows v_shapeColumns v_row v_column v_below v_face v_worn v_lastBend v_tape v_text v_names v_bends v_high v_to v_pileSize v_planLine v_planWay v_way1 v_bestWay v_order1 v_placeIn v_bodyKind v_trace v_shelf v_many v_items v_carried) → va_S A s.heap H locs → lv_has ls 9 [(0, .ref (a 0)), (1, .int x1), (4, .int x4), (5, .int x5)] → W p l e (mm_rr d) s m args below meth c H locs 0 0 (mm_Z below D A (wd_X9 cI cL cS cH a v_keptMany v_done v_rowsOf v_columnsOf v_folded v_wronged v_tapeMany v_textMany w_base w_at w_ends w_fault w_opened w_bentMany w_bentWrong w_moreWorn v_planned v_allWrong v_allWorn v_z v_wishedField v_isFound v_bestWrong v_bestWorn v_bestMany v_soughtBy v_sought v_soughtAt v_foundMany v_foundOrder v_isKept v_imageRows v_imageColumns v_imageFolded v_imageWronged v_bodies v_ran v_ownKind v_ownNumber v_limit v_changeWas v_changeIs v_shapeRows v_shapeColumns v_row v_column v_below v_face w_worn w_lastBend v_tape v_text w_names w_bends v_high v_to v_pileSize v_planLine v_planWay v_way1 v_bestWay v_order1 v_placeIn v_bodyKind v_trace v_shelf v_many v_items v_carried) none args s) (F0 m 148 ls [.int s0]) := by
  obtain ⟨hx, hb, hml, hown, hts, hr, hlocks, hK, hSt⟩ := id C0
  intro x1 x4 x5 s0 v_rowsOf v_columnsOf v_textMany v_base v_at v_ends v_fault v_opened v_bentMany v_bentWrong v_moreWorn v_limit v_row v_column v_face v_worn v_lastBend v_tape v_text v_names v_bends H locs ls hf hP hD hS hl
  unfold fX9_bendsAll_148 at hf
  refine lv_istore (lv' := [(6, .int s0), (0, .ref (a 0)), (1, .int x1), (4, .int x4), (5, .int x5)]) hx hb dX9_bendsAll_148 hl (by decide) rfl (fun ls hl => ?_)
  refine lv_aload_n hx hb dX9_bendsAll_150 rfl (lv_at hl 1 rfl) ?_
  refine mm_get C0 hP iw_X9 0 rfl rfl 13 (by decide) fl_X9_37 rfl dX9_bendsAll_151 ?_
  refine lv_iload hx hb dX9_bendsAll_154 (lv_at hl 4 rfl) ?_
  obtain ⟨h_23, hf⟩ := mm_cks hf
  refine mm_iald C0 hP 10 rfl h_23 dX9_bendsAll_156 ?_
  refine lv_topi (fun y_24 ey_24 => ?_)
  have hf := mm_nms hf ey_24
  refine lv_istore (lv' := [(7, .int y_24), (6, .int s0), (0, .ref (a 0)), (1, .int x1), (4, .int x4), (5, .int x5)]) hx hb dX9_bendsAll_157 hl (by decide) rfl (fun ls hl => ?_)
  refine lv_iload hx hb dX9_bendsAll_159 (lv_at hl 0 rfl) ?_
  refine lv_aload_n hx hb dX9_bendsAll_161 rfl (lv_at hl 2 rfl) ?_
  refine lv_aload_n hx hb dX9_bendsAll_162 rfl (lv_at hl 2 rfl) ?_
  refine mm_get C0 hP iw_X9 0 rfl rfl 28 (by decide) fl_X9_208 rfl dX9_bendsAll_163 ?_
  refine lv_iload hx hb dX9_bendsAll_166 (lv_at hl 0 rfl) ?_
  refine lv_iload hx hb dX9_bendsAll_168 (lv_at hl 1 rfl) ?_
  refine lv_iload hx hb dX9_bendsAll_170 (lv_at hl 4 rfl) ?_
  refine lv_aload_n hx hb dX9_bendsAll_172 rfl (lv_at hl 2 rfl) ?_
  refine mm_get C0 hP iw_X9 0 rfl rfl 27 (by decide) fl_X9_52 rfl dX9_bendsAll_173 ?_
  refine lv_iload hx hb dX9_bendsAll_176 (lv_at hl 4 rfl) ?_
  obtain ⟨h_25, hf⟩ := mm_cks hf
  refine mm_iald C0 hP 15 rfl h_25 dX9_bendsAll_178 ?_
  refine mm_ct7 hf (fun r_26 w_27 w_28 w_29 w_30 w_31 w_32 hc_33 hf => ?_)
  refine mm_callVF (q0 := 0) (ci := 9) (rest := [.int y_24]) C0 lk_X9_224 (ctX9_wears (a := a) (d := d - 1) (by omega) hc_33) (by omega) rfl hl.1 rfl (mm_cat rfl) dX9_bendsAll_179 hP hD hA hS rfl rfl (fun H locs hP hD hS => ?_)
  refine W.eq (g2 := F0 m 182 ls [.int r_26, .int y_24]) rfl ?_
  refine lv_iadd hx hb dX9_bendsAll_182 ?_
  refine lv_topi (fun y_34 ey_34 => ?_)
  have hf := mm_nms hf ey_34
  refine lv_istore (lv' := [(8, .int y_34), (7, .int y_24), (6, .int s0), (0, .ref (a 0)), (1, .int x1), (4, .int x4), (5, .int x5)]) hx hb dX9_bendsAll_183 hl (by decide) rfl (fun ls hl => ?_)
  refine lv_aload_n hx hb dX9_bendsAll_185 rfl (lv_at hl 3 rfl) ?_
  refine mm_get C0 hP iw_X9 0 rfl rfl 13 (by decide) fl_X9_37 rfl dX9_bendsAll_186 ?_
  refine lv_iload hx hb dX9_bendsAll_189 (lv_at hl 6 rfl) ?_
  refine lv_iload hx hb dX9_bendsAll_191 (lv_at hl 0 rfl) ?_
  refine lv_bipush (v := 99) hx hb dX9_bendsAll_193 (by decide) ?_
  refine lv_icmp_le (tgt := 203) hx hb dX9_bendsAll_195 (by decide) (fun c_35 => ?_) (fun c_35 => ?_)
  · have hf := mm_ip hf c_35
    refine lv_iload hx hb dX9_bendsAll_203 (lv_at hl 0 rfl) ?_
    exact tX9_bendsAll_205 hd C0 hA N hk_87 _ _ _ _ _ _ _ _ _ _ _ _ _ _ _ _ _ _ _ _ _ _ _ _ _ _ _ _ H locs ls hf hP hD hS (lv_sub hl [3, 4, 5, 6, 2, 1] rfl)
  · have hf := mm_in hf c_35
    refine lv_bipush (v := 99) hx hb dX9_bendsAll_198 (by decide) ?_
    refine lv_goto (tgt := 205) hx hb dX9_bendsAll_200 (by decide) ?_
    exact tX9_bendsAll_205 hd C0 hA N hk_87 _ _ _ _ _ _ _ _ _ _ _ _ _ _ _ _ _ _ _ _ _ _ _ _ _ _ _ _ H locs ls hf hP hD hS (lv_sub hl [3, 4, 5, 6, 2, 1] rfl)

def fX9_bendsAll_147 (N : Nat) (k_87 : Int32 → Int32 → Int32 → Int32 → Int32 → Int32 → Int32 → Int32 → Int32 → Int32 → Int32 → Int32 → Int32 → List Int32 → List Int32 → List Int32 → List Int32 → List Int32 → List Int32 → List Int32 → List Int32 → List Int32 → List Int32 → Option (Int32 × Int32 × Int32 × Int32 × Int32 × Int32 × Int32 × Int32 × List Int32 × List Int32 × List Int32 × List Int32)) (x1 : Int32) (x4 : Int32) (x5 : Int32) (v_rowsOf : Int32) (v_columnsOf : Int32) (v_textMany : Int32) (v_base : Int32) (v_at : Int32) (v_ends : Int32) (v_fault : Int32) (v_opened : Int32) (v_bentMany : Int32) (v_bentWrong : Int32) (v_moreWorn : Int32) (v_limit : List Int32) (v_row : List Int32) (v_column : List Int32) (v_face : List Int32) (v_worn : List Int32) (v_lastBend : List Int32) (v_tape : List Int32) (v_text : List Int32) (v_names : List Int32) (v_bends : List Int32) : Option (Int32 × Int32 × Int32 × Int32 × Int32 × Int32 × Int32 × Int32 × List Int32 × List Int32 × List Int32 × List Int32) :=
    fX9_bendsAll_148 N k_87 x1 x4 x5 (0 : Int32) v_rowsOf v_columnsOf v_textMany v_base v_at v_ends v_fault v_opened v_bentMany v_bentWrong v_moreWorn v_limit v_row v_column v_face v_worn v_lastBend v_tape v_text v_names v_bends

set_option maxHeartbeats 4000000 in
set_option maxRecDepth 100000 in
theorem tX9_bendsAll_147 {p : Program} {l : Launch} {e : Env} {s : State} {m : MethodId} {args : Array Value} {below : List Frame} {meth : Method} {c : Code} {D : va_G} {cI cL cS cH : ClassId} {A : Nat → Prop} {d : Nat} {a : Nat → Nat} (hd : 58 ≤ d) (C0 : mm_Cx p s m args meth c RX9 cX9_bendsAll 9 none D (mm_T cI cL cS cH) A) (hA : ∀ q, s.heap.size ≤ q → A q) {v_keptMany : Int32} {v_done : Int32} {v_folded : Int32} {v_wronged : Int32} {v_tapeMany : Int32} {v_planned : Int32} {v_allWrong : Int32} {v_allWorn : Int32} {v_z : Int32} {v_wishedField : Int32} {v_isFound : Bool} {v_bestWrong : Int32} {v_bestWorn : Int32} {v_bestMany : Int32} {v_soughtBy : Int32} {v_sought : Int32} {v_soughtAt : Int32} {v_foundMany : Int32} {v_foundOrder : Int32} {v_isKept : Bool} {v_imageRows : Int32} {v_imageColumns : Int32} {v_imageFolded : Int32} {v_imageWronged : Int32} {v_bodies : Int32} {v_ran : Int32} {v_ownKind : Int32} {v_ownNumber : Int32} {v_changeWas : List Int32} {v_changeIs : List Int32} {v_shapeRows : List Int32} {v_shapeColumns : List Int32} {v_below : List Int32} {v_high : List Int32} {v_to : List Int32} {v_pileSize : List Int32} {v_planLine : List Int32} {v_planWay : List Int32} {v_way1 : List Int32} {v_bestWay : List Int32} {v_order1 : List Int32} {v_placeIn : List Int32} {v_bodyKind : List Int32} {v_trace : List Int32} {v_shelf : List Int32} {v_many : List Int32} {v_items : List Int64} {v_carried : List Int64} {w_base : Int32} {w_at : Int32} {w_ends : Int32} {w_fault : Int32} {w_opened : Int32} {w_bentMany : Int32} {w_bentWrong : Int32} {w_moreWorn : Int32} {w_worn : List Int32} {w_lastBend : List Int32} {w_names : List Int32} {w_bends : List Int32} (N : Nat) {k_87 : Int32 → Int32 → Int32 → Int32 → Int32 → Int32 → Int32 → Int32 → Int32 → Int32 → Int32 → Int32 → Int32 → List Int32 → List Int32 → List Int32 → List Int32 → List Int32 → List Int32 → List Int32 → List Int32 → List Int32 → List Int32 → Option (Int32 × Int32 × Int32 × Int32 × Int32 × Int32 × Int32 × Int32 × List Int32 × List Int32 × List Int32 × List Int32)} (hk_87 : ∀ (x1 : Int32) (x4 : Int32) (v_rowsOf : Int32) (v_columnsOf : Int32) (v_textMany : Int32) (v_base : Int32) (v_at : Int32) (v_ends : Int32) (v_fault : Int32) (v_opened : Int32) (v_bentMany : Int32) (v_bentWrong : Int32) (v_moreWorn : Int32) (v_limit : List Int32) (v_row : List Int32) (v_column : List Int32) (v_face : List Int32) (v_worn : List Int32) (v_lastBend : List Int32) (v_tape : List Int32) (v_text : List Int32) (v_names : List Int32) (v_bends : List Int32) (H : Heap) (locs : List Loc) (ls : Array Slot), k_87 x1 x4 v_rowsOf v_columnsOf v_textMany v_base v_at v_ends v_fault v_opened v_bentMany v_bentWrong v_moreWorn v_limit v_row v_column v_face v_worn v_lastBend v_tape v_text v_names v_bends = some (w_base, w_at, w_ends, w_fault, w_opened, w_bentMany, w_bentWrong, w_moreWorn, w_worn, w_lastBend, w_names, w_bends) → va_P D mm_cl (wd_X9 cI cL cS cH a v_keptMany v_done v_rowsOf v_columnsOf v_folded v_wronged v_tapeMany v_textMany v_base v_at v_ends v_fault v_opened v_bentMany v_bentWrong v_moreWorn v_planned v_allWrong v_allWorn v_z v_wishedField v_isFound v_bestWrong v_bestWorn v_bestMany v_soughtBy v_sought v_soughtAt v_foundMany v_foundOrder v_isKept v_imageRows v_imageColumns v_imageFolded v_imageWronged v_bodies v_ran v_ownKind v_ownNumber v_limit v_changeWas v_changeIs v_shapeRows v_shapeColumns v_row v_column v_below v_face v_worn v_lastBend v_tape v_text v_names v_bends v_high v_to v_pileSize v_planLine v_planWay v_way1 v_bestWay v_order1 v_placeIn v_bodyKind v_trace v_shelf v_many v_items v_carried) H → va_D A (wd_X9 cI cL cS cH a v_keptMany v_done v_rowsOf v_columnsOf v_folded v_wronged v_tapeMany v_textMany v_base v_at v_ends v_fault v_opened v_bentMany v_bentWrong v_moreWorn v_planned v_allWrong v_allWorn v_z v_wishedField v_isFound v_bestWrong v_bestWorn v_bestMany v_soughtBy v_sought v_soughtAt v_foundMany v_foundOrder v_isKept v_imageRows v_imageColumns v_imageFolded v_imageWronged v_bodies v_ran v_ownKind v_ownNumber v_limit v_changeWas v_changeIs v_shapeRows v_shapeColumns v_row v_column v_below v_face v_worn v_lastBend v_tape v_text v_names v_bends v_high v_to v_pileSize v_planLine v_planWay v_way1 v_bestWay v_order1 v_placeIn v_bodyKind v_trace v_shelf v_many v_items v_carried) → va_S A s.heap H locs → lv_has ls 9 [(0, .ref (a 0)), (1, .int x1), (4, .int x4)] → W p l e (mm_rr d) s m args below meth c H locs 0 0 (mm_Z below D A (wd_X9 cI cL cS cH a v_keptMany v_done v_rowsOf v_columnsOf v_folded v_wronged v_tapeMany v_textMany w_base w_at w_ends w_fault w_opened w_bentMany w_bentWrong w_moreWorn v_planned v_allWrong v_allWorn v_z v_wishedField v_isFound v_bestWrong v_bestWorn v_bestMany v_soughtBy v_sought v_soughtAt v_foundMany v_foundOrder v_isKept v_imageRows v_imageColumns v_imageFolded v_imageWronged v_bodies v_ran v_ownKind v_ownNumber v_limit v_changeWas v_changeIs v_shapeRows v_shapeColumns v_row v_column v_below v_face w_worn w_lastBend v_tape v_text w_names w_bends v_high v_to v_pileSize v_planLine v_planWay v_way1 v_bestWay v_order1 v_placeIn v_bodyKind v_trace v_shelf v_many v_items v_carried) none args s) (F0 m 87 ls [])) : ∀ (x1 : Int32) (x4 : Int32) (x5 : Int32) (v_rowsOf : Int32) (v_columnsOf : Int32) (v_textMany : Int32) (v_base : Int32) (v_at : Int32) (v_ends : Int32) (v_fault : Int32) (v_opened : Int32) (v_bentMany : Int32) (v_bentWrong : Int32) (v_moreWorn : Int32) (v_limit : List Int32) (v_row : List Int32) (v_column : List Int32) (v_face : List Int32) (v_worn : List Int32) (v_lastBend : List Int32) (v_tape : List Int32) (v_text : List Int32) (v_names : List Int32) (v_bends : List Int32) (H : Heap) (locs : List Loc) (ls : Array Slot), fX9_bendsAll_147 N k_87 x1 x4 x5 v_rowsOf v_columnsOf v_textMany v_base v_at v_ends v_fault v_opened v_bentMany v_bentWrong v_moreWorn v_limit v_row v_column v_face v_worn v_lastBend v_tape v_text v_names v_bends = some (w_base, w_at, w_ends, w_fault, w_opened, w_bentMany, w_bentWrong, w_moreWorn, w_worn, w_lastBend, w_names, w_bends) → va_P D mm_cl (wd_X9 cI cL cS cH a v_keptMany v_done v_rowsOf v_columnsOf v_folded v_wronged v_tapeMany v_textMany v_base v_at v_ends v_fault v_opened v_bentMany v_bentWrong v_moreWorn v_planned v_allWrong v_allWorn v_z v_wishedField v_isFound v_bestWrong v_bestWorn v_bestMany v_soughtBy v_sought v_soughtAt v_foundMany v_foundOrder v_isKept v_imageRows v_imageColumns v_imageFolded v_imageWronged v_bodies v_ran v_ownKind v_ownNumber v_limit v_changeWas v_changeIs v_shapeRows v_shapeColumns v_row v_column v_below v_face v_worn v_lastBend v_tape v_text v_names v_bends v_high v_to v_pileSize v_planLine v_planWay v_way1 v_bestWay v_order1 v_placeIn v_bodyKind v_trace v_shelf v_many v_items v_carried) H → va_D A (wd_X9 cI cL cS cH a v_keptMany v_done v_rowsOf v_columnsOf v_folded v_wronged v_tapeMany v_textMany v_base v_at v_ends v_fault v_opened v_bentMany v_bentWrong v_moreWorn v_planned v_allWrong v_allWorn v_z v_wishedField v_isFound v_bestWrong v_bestWorn v_bestMany v_soughtBy v_sought v_soughtAt v_foundMany v_foundOrder v_isKept v_imageRows v_imageColumns v_imageFolded v_imageWronged v_bodies v_ran v_ownKind v_ownNumber v_limit v_changeWas v_changeIs v_shapeRows v_shapeColumns v_row v_column v_below v_face v_worn v_lastBend v_tape v_text v_names v_bends v_high v_to v_pileSize v_planLine v_planWay v_way1 v_bestWay v_order1 v_placeIn v_bodyKind v_trace v_shelf v_many v_items v_carried) → va_S A s.heap H locs → lv_has ls 9 [(0, .ref (a 0)), (1, .int x1), (4, .int x4), (5, .int x5)] → W p l e (mm_rr d) s m args below meth c H locs 0 0 (mm_Z below D A (wd_X9 cI cL cS cH a v_keptMany v_done v_rowsOf v_columnsOf v_folded v_wronged v_tapeMany v_textMany w_base w_at w_ends w_fault w_opened w_bentMany w_bentWrong w_moreWorn v_planned v_allWrong v_allWorn v_z v_wishedField v_isFound v_bestWrong v_bestWorn v_bestMany v_soughtBy v_sought v_soughtAt v_foundMany v_foundOrder v_isKept v_imageRows v_imageColumns v_imageFolded v_imageWronged v_bodies v_ran v_ownKind v_ownNumber v_limit v_changeWas v_changeIs v_shapeRows v_shapeColumns v_row v_column v_below v_face w_worn w_lastBend v_tape v_text w_names w_bends v_high v_to v_pileSize v_planLine v_planWay v_way1 v_bestWay v_order1 v_placeIn v_bodyKind v_trace v_shelf v_many v_items v_carried) none args s) (F0 m 147 ls []) := by
  obtain ⟨hx, hb, hml, hown, hts, hr, hlocks, hK, hSt⟩ := id C0
  intro x1 x4 x5 v_rowsOf v_columnsOf v_textMany v_base v_at v_ends v_fault v_opened v_bentMany v_bentWrong v_moreWorn v_limit v_row v_column v_face v_worn v_lastBend v_tape v_text v_names v_bends H locs ls hf hP hD hS hl
  unfold fX9_bendsAll_147 at hf
  refine lv_iconst (v := 0) hx hb dX9_bendsAll_147 (by decide) ?_
  exact tX9_bendsAll_148 hd C0 hA N hk_87 _ _ _ _ _ _ _ _ _ _ _ _ _ _ _ _ _ _ _ _ _ _ _ _ _ H locs ls hf hP hD hS (lv_sub hl [0, 1, 2, 3] rfl)

def fX9_bendsAll_87 (N : Nat)  : Nat → Int32 → Int32 → Int32 → Int32 → Int32 → Int32 → Int32 → Int32 → Int32 → Int32 → Int32 → Int32 → Int32 → List Int32 → List Int32 → List Int32 → List Int32 → List Int32 → List Int32 → List Int32 → List Int32 → List Int32 → List Int32 → Option (Int32 × Int32 × Int32 × Int32 × Int32 × Int32 × Int32 × Int32 × List Int32 × List Int32 × List Int32 × List Int32)
  | 0 => fun _ _ _ _ _ _ _ _ _ _ _ _ _ _ _ _ _ _ _ _ _ _ _ => none
  | n + 1 => fun x1 x4 v_rowsOf v_columnsOf v_textMany v_base v_at v_ends v_fault v_opened v_bentMany v_bentWrong v_moreWorn v_limit v_row v_column v_face v_worn v_lastBend v_tape v_text v_names v_bends =>
    if (64 : Int32) ≤ x4 then
    (some (v_base, v_at, v_ends, v_fault, v_opened, v_bentMany, v_bentWrong, v_moreWorn, v_worn, v_lastBend, v_names, v_bends))
    else (mm_ck (mm_inb x4 v_bends.length) (if (mm_ig v_bends x4) = 0 then
    (fX9_bendsAll_250 N (fX9_bendsAll_87 N n) x1 x4 v_rowsOf v_columnsOf v_textMany v_base v_at v_ends v_fault v_opened v_bentMany v_bentWrong v_moreWorn v_limit v_row v_column v_face v_worn v_lastBend v_tape v_text v_names v_bends)
    else (mm_nm ((((64 : Int32) * x1) + x4)) (fun (y_16 : Int32) =>
    mm_ck (mm_inb y_16 v_lastBend.length) (if (mm_ig v_lastBend y_16) = 0 then
    (fX9_bendsAll_147 N (fX9_bendsAll_87 N n) x1 x4 y_16 v_rowsOf v_columnsOf v_textMany v_base v_at v_ends v_fault v_opened v_bentMany v_bentWrong v_moreWorn v_limit v_row v_column v_face v_worn v_lastBend v_tape v_text v_names v_bends)
    else (mm_ck (mm_inb y_16 v_lastBend.length) (mm_ck (mm_inb x4 v_bends.length) (if (mm_ig v_lastBend y_16) = (mm_ig v_bends x4) then
    (fX9_bendsAll_147 N (fX9_bendsAll_87 N n) x1 x4 y_16 v_rowsOf v_columnsOf v_textMany v_base v_at v_ends v_fault v_opened v_bentMany v_bentWrong v_moreWorn v_limit v_row v_column v_face v_worn v_lastBend v_tape v_text v_names v_bends)
    else (fX9_bendsAll_148 N (fX9_bendsAll_87 N n) x1 x4 y_16 (1 : Int32) v_rowsOf v_columnsOf v_textMany v_base v_at v_ends v_fault v_opened v_bentMany v_bentWrong v_moreWorn v_limit v_row v_column v_face v_worn v_lastBend v_tape v_text v_names v_bends)))))))))

set_option maxHeartbeats 4000000 in
set_option maxRecDepth 100000 in
theorem tX9_bendsAll_87 {p : Program} {l : Launch} {e : Env} {s : State} {m : MethodId} {args : Array Value} {below : List Frame} {meth : Method} {c : Code} {D : va_G} {cI cL cS cH : ClassId} {A : Nat → Prop} {d : Nat} {a : Nat → Nat} (hd : 58 ≤ d) (C0 : mm_Cx p s m args meth c RX9 cX9_bendsAll 9 none D (mm_T cI cL cS cH) A) (hA : ∀ q, s.heap.size ≤ q → A q) {v_keptMany : Int32} {v_done : Int32} {v_folded : Int32} {v_wronged : Int32} {v_tapeMany : Int32} {v_planned : Int32} {v_allWrong : Int32} {v_allWorn : Int32} {v_z : Int32} {v_wishedField : Int32} {v_isFound : Bool} {v_bestWrong : Int32} {v_bestWorn : Int32} {v_bestMany : Int32} {v_soughtBy : Int32} {v_sought : Int32} {v_soughtAt : Int32} {v_foundMany : Int32} {v_foundOrder : Int32} {v_isKept : Bool} {v_imageRows : Int32} {v_imageColumns : Int32} {v_imageFolded : Int32} {v_imageWronged : Int32} {v_bodies : Int32} {v_ran : Int32} {v_ownKind : Int32} {v_ownNumber : Int32} {v_changeWas : List Int32} {v_changeIs : List Int32} {v_shapeRows : List Int32} {v_shapeColumns : List Int32} {v_below : List Int32} {v_high : List Int32} {v_to : List Int32} {v_pileSize : List Int32} {v_planLine : List Int32} {v_planWay : List Int32} {v_way1 : List Int32} {v_bestWay : List Int32} {v_order1 : List Int32} {v_placeIn : List Int32} {v_bodyKind : List Int32} {v_trace : List Int32} {v_shelf : List Int32} {v_many : List Int32} {v_items : List Int64} {v_carried : List Int64} {w_base : Int32} {w_at : Int32} {w_ends : Int32} {w_fault : Int32} {w_opened : Int32} {w_bentMany : Int32} {w_bentWrong : Int32} {w_moreWorn : Int32} {w_worn : List Int32} {w_lastBend : List Int32} {w_names : List Int32} {w_bends : List Int32} (N : Nat)  : ∀ (n : Nat), ∀ (x1 : Int32) (x4 : Int32) (v_rowsOf : Int32) (v_columnsOf : Int32) (v_textMany : Int32) (v_base : Int32) (v_at : Int32) (v_ends : Int32) (v_fault : Int32) (v_opened : Int32) (v_bentMany : Int32) (v_bentWrong : Int32) (v_moreWorn : Int32) (v_limit : List Int32) (v_row : List Int32) (v_column : List Int32) (v_face : List Int32) (v_worn : List Int32) (v_lastBend : List Int32) (v_tape : List Int32) (v_text : List Int32) (v_names : List Int32) (v_bends : List Int32) (H : Heap) (locs : List Loc) (ls : Array Slot), fX9_bendsAll_87 N n x1 x4 v_rowsOf v_columnsOf v_textMany v_base v_at v_ends v_fault v_opened v_bentMany v_bentWrong v_moreWorn v_limit v_row v_column v_face v_worn v_lastBend v_tape v_text v_names v_bends = some (w_base, w_at, w_ends, w_fault, w_opened, w_bentMany, w_bentWrong, w_moreWorn, w_worn, w_lastBend, w_names, w_bends) → va_P D mm_cl (wd_X9 cI cL cS cH a v_keptMany v_done v_rowsOf v_columnsOf v_folded v_wronged v_tapeMany v_textMany v_base v_at v_ends v_fault v_opened v_bentMany v_bentWrong v_moreWorn v_planned v_allWrong v_allWorn v_z v_wishedField v_isFound v_bestWrong v_bestWorn v_bestMany v_soughtBy v_sought v_soughtAt v_foundMany v_foundOrder v_isKept v_imageRows v_imageColumns v_imageFolded v_imageWronged v_bodies v_ran v_ownKind v_ownNumber v_limit v_changeWas v_changeIs v_shapeRows v_shapeColumns v_row v_column v_below v_face v_worn v_lastBend v_tape v_text v_names v_bends v_high v_to v_pileSize v_planLine v_planWay v_way1 v_bestWay v_order1 v_placeIn v_bodyKind v_trace v_shelf v_many v_items v_carried) H → va_D A (wd_X9 cI cL cS cH a v_keptMany v_done v_rowsOf v_columnsOf v_folded v_wronged v_tapeMany v_textMany v_base v_at v_ends v_fault v_opened v_bentMany v_bentWrong v_moreWorn v_planned v_allWrong v_allWorn v_z v_wishedField v_isFound v_bestWrong v_bestWorn v_bestMany v_soughtBy v_sought v_soughtAt v_foundMany v_foundOrder v_isKept v_imageRows v_imageColumns v_imageFolded v_imageWronged v_bodies v_ran v_ownKind v_ownNumber v_limit v_changeWas v_changeIs v_shapeRows v_shapeColumns v_row v_column v_below v_face v_worn v_lastBend v_tape v_text v_names v_bends v_high v_to v_pileSize v_planLine v_planWay v_way1 v_bestWay v_order1 v_placeIn v_bodyKind v_trace v_shelf v_many v_items v_carried) → va_S A s.heap H locs → lv_has ls 9 [(0, .ref (a 0)), (1, .int x1), (4, .int x4)] → W p l e (mm_rr d) s m args below meth c H locs 0 0 (mm_Z below D A (wd_X9 cI cL cS cH a v_keptMany v_done v_rowsOf v_columnsOf v_folded v_wronged v_tapeMany v_textMany w_base w_at w_ends w_fault w_opened w_bentMany w_bentWrong w_moreWorn v_planned v_allWrong v_allWorn v_z v_wishedField v_isFound v_bestWrong v_bestWorn v_bestMany v_soughtBy v_sought v_soughtAt v_foundMany v_foundOrder v_isKept v_imageRows v_imageColumns v_imageFolded v_imageWronged v_bodies v_ran v_ownKind v_ownNumber v_limit v_changeWas v_changeIs v_shapeRows v_shapeColumns v_row v_column v_below v_face w_worn w_lastBend v_tape v_text w_names w_bends v_high v_to v_pileSize v_planLine v_planWay v_way1 v_bestWay v_order1 v_placeIn v_bodyKind v_trace v_shelf v_many v_items v_carried) none args s) (F0 m 87 ls []) := by
  obtain ⟨hx, hb, hml, hown, hts, hr, hlocks, hK, hSt⟩ := id C0
  intro n
  induction n with
  | zero =>
    intro x1 x4 v_rowsOf v_columnsOf v_textMany v_base v_at v_ends v_fault v_opened v_bentMany v_bentWrong v_moreWorn v_limit v_row v_column v_face v_worn v_lastBend v_tape v_text v_names v_bends H locs ls hf
    cases (show none = some _ from hf)
  | succ n ih =>
    intro x1 x4 v_rowsOf v_columnsOf v_textMany v_base v_at v_ends v_fault v_opened v_bentMany v_bentWrong v_moreWorn v_limit v_row v_column v_face v_worn v_lastBend v_tape v_text v_names v_bends H locs ls hf hP hD hS hl
    unfold fX9_bendsAll_87 at hf
    refine lv_iload hx hb dX9_bendsAll_87 (lv_at hl 2 rfl) ?_
    refine lv_bipush (v := 64) hx hb dX9_bendsAll_89 (by decide) ?_
    refine lv_icmp_ge (tgt := 256) hx hb dX9_bendsAll_91 (by decide) (fun c_13 => ?_) (fun c_13 => ?_)
    · have hf := mm_ip hf c_13
      apply mm_sub12 hf
      exact mm_vret C0 hP hD hS dX9_bendsAll_256
    · have hf := mm_in hf c_13
      refine lv_aload_n hx hb dX9_bendsAll_94 rfl (lv_at hl 0 rfl) ?_
      refine mm_get C0 hP iw_X9 0 rfl rfl 27 (by decide) fl_X9_52 rfl dX9_bendsAll_95 ?_
      refine lv_iload hx hb dX9_bendsAll_98 (lv_at hl 2 rfl) ?_
      obtain ⟨h_14, hf⟩ := mm_cks hf
      refine mm_iald C0 hP 15 rfl h_14 dX9_bendsAll_100 ?_
      refine lv_if_ne (tgt := 107) hx hb dX9_bendsAll_101 (by decide) (fun c_15 => ?_) (fun c_15 => ?_)
      · have hf := mm_in hf c_15
        refine lv_bipush (v := 64) hx hb dX9_bendsAll_107 (by decide) ?_
        refine lv_iload_n hx hb dX9_bendsAll_109 rfl (lv_at hl 1 rfl) ?_
        refine lv_imul hx hb dX9_bendsAll_110 ?_
        refine lv_iload hx hb dX9_bendsAll_111 (lv_at hl 2 rfl) ?_
        refine lv_iadd hx hb dX9_bendsAll_113 ?_
        refine lv_topi (fun y_16 ey_16 => ?_)
        have hf := mm_nms hf ey_16
        refine lv_istore (lv' := [(5, .int y_16), (0, .ref (a 0)), (1, .int x1), (4, .int x4)]) hx hb dX9_bendsAll_114 hl (by decide) rfl (fun ls hl => ?_)
        refine lv_aload_n hx hb dX9_bendsAll_116 rfl (lv_at hl 1 rfl) ?_
        refine mm_get C0 hP iw_X9 0 rfl rfl 14 (by decide) fl_X9_40 rfl dX9_bendsAll_117 ?_
        refine lv_iload hx hb dX9_bendsAll_120 (lv_at hl 0 rfl) ?_
        obtain ⟨h_17, hf⟩ := mm_cks hf
        refine mm_iald C0 hP 11 rfl h_17 dX9_bendsAll_122 ?_
        refine lv_if_eq (tgt := 147) hx hb dX9_bendsAll_123 (by decide) (fun c_18 => ?_) (fun c_18 => ?_)
        · have hf := mm_ip hf c_18
          exact tX9_bendsAll_147 hd C0 hA N ih _ _ _ _ _ _ _ _ _ _ _ _ _ _ _ _ _ _ _ _ _ _ _ _ H locs ls hf hP hD hS (lv_sub hl [1, 2, 3, 0] rfl)
        · have hf := mm_in hf c_18
          refine lv_aload_n hx hb dX9_bendsAll_126 rfl (lv_at hl 1 rfl) ?_
          refine mm_get C0 hP iw_X9 0 rfl rfl 14 (by decide) fl_X9_40 rfl dX9_bendsAll_127 ?_
          refine lv_iload hx hb dX9_bendsAll_130 (lv_at hl 0 rfl) ?_
          obtain ⟨h_19, hf⟩ := mm_cks hf
          refine mm_iald C0 hP 11 rfl h_19 dX9_bendsAll_132 ?_
          refine lv_aload_n hx hb dX9_bendsAll_133 rfl (lv_at hl 1 rfl) ?_
          refine mm_get C0 hP iw_X9 0 rfl rfl 27 (by decide) fl_X9_52 rfl dX9_bendsAll_134 ?_
          refine lv_iload hx hb dX9_bendsAll_137 (lv_at hl 3 rfl) ?_
          obtain ⟨h_20, hf⟩ := mm_cks hf
          refine mm_iald C0 hP 15 rfl h_20 dX9_bendsAll_139 ?_
          refine lv_icmp_eq (tgt := 147) hx hb dX9_bendsAll_140 (by decide) (fun c_21 => ?_) (fun c_21 => ?_)
          · have hf := mm_ip hf c_21
            exact tX9_bendsAll_147 hd C0 hA N ih _ _ _ _ _ _ _ _ _ _ _ _ _ _ _ _ _ _ _ _ _ _ _ _ H locs ls hf hP hD hS (lv_sub hl [1, 2, 3, 0] rfl)
          · have hf := mm_in hf c_21
            refine lv_iconst (v := 1) hx hb dX9_bendsAll_143 (by decide) ?_
            refine lv_goto (tgt := 148) hx hb dX9_bendsAll_144 (by decide) ?_
            exact tX9_bendsAll_148 hd C0 hA N ih _ _ _ _ _ _ _ _ _ _ _ _ _ _ _ _ _ _ _ _ _ _ _ _ _ H locs ls hf hP hD hS (lv_sub hl [1, 2, 3, 0] rfl)
      · have hf := mm_ip hf c_15
        refine lv_goto (tgt := 250) hx hb dX9_bendsAll_104 (by decide) ?_
        exact tX9_bendsAll_250 hd C0 hA N ih _ _ _ _ _ _ _ _ _ _ _ _ _ _ _ _ _ _ _ _ _ _ _ H locs ls hf hP hD hS (lv_sub hl [0, 1, 2] rfl)

def fX9_bendsAll_18 (N : Nat)  : Nat → Int32 → Int32 → Int32 → Int32 → Int32 → Int32 → Int32 → Int32 → Int32 → Int32 → Int32 → Int32 → Int32 → Int32 → Int32 → List Int32 → List Int32 → List Int32 → List Int32 → List Int32 → List Int32 → List Int32 → List Int32 → List Int32 → List Int32 → Option (Int32 × Int32 × Int32 × Int32 × Int32 × Int32 × Int32 × Int32 × List Int32 × List Int32 × List Int32 × List Int32)
  | 0 => fun _ _ _ _ _ _ _ _ _ _ _ _ _ _ _ _ _ _ _ _ _ _ _ _ _ => none
  | n + 1 => fun x1 x2 x3 x4 v_rowsOf v_columnsOf v_textMany v_base v_at v_ends v_fault v_opened v_bentMany v_bentWrong v_moreWorn v_limit v_row v_column v_face v_worn v_lastBend v_tape v_text v_names v_bends =>
    if (64 : Int32) ≤ x4 then
    (fX9_bendsAll_87 N N x1 (0 : Int32) v_rowsOf v_columnsOf v_textMany v_base v_at v_ends v_fault v_opened v_bentMany v_bentWrong v_moreWorn v_limit v_row v_column v_face v_worn v_lastBend v_tape v_text v_names v_bends)
    else (mm_bd1 (fX9_isCrease N x4 v_rowsOf v_columnsOf) (fun (r_2 : Bool) =>
    if r_2 = false then
    (fX9_bendsAll_53 N (fX9_bendsAll_18 N n) x1 x2 x3 x4 (0 : Int32) x4 v_rowsOf v_columnsOf v_textMany v_base v_at v_ends v_fault v_opened v_bentMany v_bentWrong v_moreWorn v_limit v_row v_column v_face v_worn v_lastBend v_tape v_text v_names v_bends)
    else (mm_bd1 (fX9_bendOf N x1 x4 x2 x3 v_columnsOf v_limit v_row v_column v_face v_worn) (fun (r_5 : Int32) =>
    fX9_bendsAll_53 N (fX9_bendsAll_18 N n) x1 x2 x3 x4 r_5 x4 v_rowsOf v_columnsOf v_textMany v_base v_at v_ends v_fault v_opened v_bentMany v_bentWrong v_moreWorn v_limit v_row v_column v_face v_worn v_lastBend v_tape v_text v_names v_bends))))

set_option maxHeartbeats 4000000 in
set_option maxRecDepth 100000 in
theorem tX9_bendsAll_18 {p : Program} {l : Launch} {e : Env} {s : State} {m : MethodId} {args : Array Value} {below : List Frame} {meth : Method} {c : Code} {D : va_G} {cI cL cS cH : ClassId} {A : Nat → Prop} {d : Nat} {a : Nat → Nat} (hd : 58 ≤ d) (C0 : mm_Cx p s m args meth c RX9 cX9_bendsAll 9 none D (mm_T cI cL cS cH) A) (hA : ∀ q, s.heap.size ≤ q → A q) {v_keptMany : Int32} {v_done : Int32} {v_folded : Int32} {v_wronged : Int32} {v_tapeMany : Int32} {v_planned : Int32} {v_allWrong : Int32} {v_allWorn : Int32} {v_z : Int32} {v_wishedField : Int32} {v_isFound : Bool} {v_bestWrong : Int32} {v_bestWorn : Int32} {v_bestMany : Int32} {v_soughtBy : Int32} {v_sought : Int32} {v_soughtAt : Int32} {v_foundMany : Int32} {v_foundOrder : Int32} {v_isKept : Bool} {v_imageRows : Int32} {v_imageColumns : Int32} {v_imageFolded : Int32} {v_imageWronged : Int32} {v_bodies : Int32} {v_ran : Int32} {v_ownKind : Int32} {v_ownNumber : Int32} {v_changeWas : List Int32} {v_changeIs : List Int32} {v_shapeRows : List Int32} {v_shapeColumns : List Int32} {v_below : List Int32} {v_high : List Int32} {v_to : List Int32} {v_pileSize : List Int32} {v_planLine : List Int32} {v_planWay : List Int32} {v_way1 : List Int32} {v_bestWay : List Int32} {v_order1 : List Int32} {v_placeIn : List Int32} {v_bodyKind : List Int32} {v_trace : List Int32} {v_shelf : List Int32} {v_many : List Int32} {v_items : List Int64} {v_carried : List Int64} {w_base : Int32} {w_at : Int32} {w_ends : Int32} {w_fault : Int32} {w_opened : Int32} {w_bentMany : Int32} {w_bentWrong : Int32} {w_moreWorn : Int32} {w_worn : List Int32} {w_lastBend : List Int32} {w_names : List Int32} {w_bends : List Int32} (N : Nat)  : ∀ (n : Nat), ∀ (x1 : Int32) (x2 : Int32) (x3 : Int32) (x4 : Int32) (v_rowsOf : Int32) (v_columnsOf : Int32) (v_textMany : Int32) (v_base : Int32) (v_at : Int32) (v_ends : Int32) (v_fault : Int32) (v_opened : Int32) (v_bentMany : Int32) (v_bentWrong : Int32) (v_moreWorn : Int32) (v_limit : List Int32) (v_row : List Int32) (v_column : List Int32) (v_face : List Int32) (v_worn : List Int32) (v_lastBend : List Int32) (v_tape : List Int32) (v_text : List Int32) (v_names : List Int32) (v_bends : List Int32) (H : Heap) (locs : List Loc) (ls : Array Slot), fX9_bendsAll_18 N n x1 x2 x3 x4 v_rowsOf v_columnsOf v_textMany v_base v_at v_ends v_fault v_opened v_bentMany v_bentWrong v_moreWorn v_limit v_row v_column v_face v_worn v_lastBend v_tape v_text v_names v_bends = some (w_base, w_at, w_ends, w_fault, w_opened, w_bentMany, w_bentWrong, w_moreWorn, w_worn, w_lastBend, w_names, w_bends) → va_P D mm_cl (wd_X9 cI cL cS cH a v_keptMany v_done v_rowsOf v_columnsOf v_folded v_wronged v_tapeMany v_textMany v_base v_at v_ends v_fault v_opened v_bentMany v_bentWrong v_moreWorn v_planned v_allWrong v_allWorn v_z v_wishedField v_isFound v_bestWrong v_bestWorn v_bestMany v_soughtBy v_sought v_soughtAt v_foundMany v_foundOrder v_isKept v_imageRows v_imageColumns v_imageFolded v_imageWronged v_bodies v_ran v_ownKind v_ownNumber v_limit v_changeWas v_changeIs v_shapeRows v_shapeColumns v_row v_column v_below v_face v_worn v_lastBend v_tape v_text v_names v_bends v_high v_to v_pileSize v_planLine v_planWay v_way1 v_bestWay v_order1 v_placeIn v_bodyKind v_trace v_shelf v_many v_items v_carried) H → va_D A (wd_X9 cI cL cS cH a v_keptMany v_done v_rowsOf v_columnsOf v_folded v_wronged v_tapeMany v_textMany v_base v_at v_ends v_fault v_opened v_bentMany v_bentWrong v_moreWorn v_planned v_allWrong v_allWorn v_z v_wishedField v_isFound v_bestWrong v_bestWorn v_bestMany v_soughtBy v_sought v_soughtAt v_foundMany v_foundOrder v_isKept v_imageRows v_imageColumns v_imageFolded v_imageWronged v_bodies v_ran v_ownKind v_ownNumber v_limit v_changeWas v_changeIs v_shapeRows v_shapeColumns v_row v_column v_below v_face v_worn v_lastBend v_tape v_text v_names v_bends v_high v_to v_pileSize v_planLine v_planWay v_way1 v_bestWay v_order1 v_placeIn v_bodyKind v_trace v_shelf v_many v_items v_carried) → va_S A s.heap H locs → lv_has ls 9 [(0, .ref (a 0)), (1, .int x1), (2, .int x2), (3, .int x3), (4, .int x4)] → W p l e (mm_rr d) s m args below meth c H locs 0 0 (mm_Z below D A (wd_X9 cI cL cS cH a v_keptMany v_done v_rowsOf v_columnsOf v_folded v_wronged v_tapeMany v_textMany w_base w_at w_ends w_fault w_opened w_bentMany w_bentWrong w_moreWorn v_planned v_allWrong v_allWorn v_z v_wishedField v_isFound v_bestWrong v_bestWorn v_bestMany v_soughtBy v_sought v_soughtAt v_foundMany v_foundOrder v_isKept v_imageRows v_imageColumns v_imageFolded v_imageWronged v_bodies v_ran v_ownKind v_ownNumber v_limit v_changeWas v_changeIs v_shapeRows v_shapeColumns v_row v_column v_below v_face w_worn w_lastBend v_tape v_text w_names w_bends v_high v_to v_pileSize v_planLine v_planWay v_way1 v_bestWay v_order1 v_placeIn v_bodyKind v_trace v_shelf v_many v_items v_carried) none args s) (F0 m 18 ls []) := by
  obtain ⟨hx, hb, hml, hown, hts, hr, hlocks, hK, hSt⟩ := id C0
  intro n
  induction n with
  | zero =>
    intro x1 x2 x3 x4 v_rowsOf v_columnsOf v_textMany v_base v_at v_ends v_fault v_opened v_bentMany v_bentWrong v_moreWorn v_limit v_row v_column v_face v_worn v_lastBend v_tape v_text v_names v_bends H locs ls hf
    cases (show none = some _ from hf)
  | succ n ih =>
    intro x1 x2 x3 x4 v_rowsOf v_columnsOf v_textMany v_base v_at v_ends v_fault v_opened v_bentMany v_bentWrong v_moreWorn v_limit v_row v_column v_face v_worn v_lastBend v_tape v_text v_names v_bends H locs ls hf hP hD hS hl
    unfold fX9_bendsAll_18 at hf
    refine lv_iload hx hb dX9_bendsAll_18 (lv_at hl 4 rfl) ?_
    refine lv_bipush (v := 64) hx hb dX9_bendsAll_20 (by decide) ?_
    refine lv_icmp_ge (tgt := 84) hx hb dX9_bendsAll_22 (by decide) (fun c_1 => ?_) (fun c_1 => ?_)
    · have hf := mm_ip hf c_1
      refine lv_iconst (v := 0) hx hb dX9_bendsAll_84 (by decide) ?_
      refine lv_istore (lv' := [(4, .int (0 : Int32)), (0, .ref (a 0)), (1, .int x1), (2, .int x2), (3, .int x3)]) hx hb dX9_bendsAll_85 hl (by decide) rfl (fun ls hl => ?_)
      exact tX9_bendsAll_87 hd C0 hA N  N _ _ _ _ _ _ _ _ _ _ _ _ _ _ _ _ _ _ _ _ _ _ _ H locs ls hf hP hD hS (lv_sub hl [1, 2, 0] rfl)
    · have hf := mm_in hf c_1
      refine lv_aload_n hx hb dX9_bendsAll_25 rfl (lv_at hl 0 rfl) ?_
      refine mm_get C0 hP iw_X9 0 rfl rfl 27 (by decide) fl_X9_52 rfl dX9_bendsAll_26 ?_
      refine lv_iload hx hb dX9_bendsAll_29 (lv_at hl 4 rfl) ?_
      refine lv_aload_n hx hb dX9_bendsAll_31 rfl (lv_at hl 0 rfl) ?_
      refine lv_iload hx hb dX9_bendsAll_32 (lv_at hl 4 rfl) ?_
      obtain ⟨r_2, hc_3, hf⟩ := mm_bd1s hf
      refine mm_callVF (q0 := 0) (ci := 9) (rest := [.int x4, .ref (a 15)]) C0 lk_X9_217 (ctX9_isCrease (a := a) (d := d - 1) (by omega) hc_3) (by omega) rfl hl.1 rfl (mm_cat rfl) dX9_bendsAll_34 hP hD hA hS rfl rfl (fun H locs hP hD hS => ?_)
      refine W.eq (g2 := F0 m 37 ls [.int (mm_b r_2), .int x4, .ref (a 15)]) rfl ?_
      refine lv_if_eq (tgt := 52) hx hb dX9_bendsAll_37 (by decide) (fun c_4 => ?_) (fun c_4 => ?_)
      · have hf := mm_ip hf (mm_b0 c_4)
        refine lv_iconst (v := 0) hx hb dX9_bendsAll_52 (by decide) ?_
        exact tX9_bendsAll_53 hd C0 hA N ih _ _ _ _ _ _ _ _ _ _ _ _ _ _ _ _ _ _ _ _ _ _ _ _ _ _ _ H locs ls hf hP hD hS (lv_sub hl [0, 1, 2, 3, 4] rfl)
      · have hf := mm_in hf (mm_b1 c_4)
        refine lv_aload_n hx hb dX9_bendsAll_40 rfl (lv_at hl 0 rfl) ?_
        refine lv_iload_n hx hb dX9_bendsAll_41 rfl (lv_at hl 1 rfl) ?_
        refine lv_iload hx hb dX9_bendsAll_42 (lv_at hl 4 rfl) ?_
        refine lv_iload_n hx hb dX9_bendsAll_44 rfl (lv_at hl 2 rfl) ?_
        refine lv_iload_n hx hb dX9_bendsAll_45 rfl (lv_at hl 3 rfl) ?_
        obtain ⟨r_5, hc_6, hf⟩ := mm_bd1s hf
        refine mm_callVF (q0 := 0) (ci := 9) (rest := [.int x4, .ref (a 15)]) C0 lk_X9_220 (ctX9_bendOf (a := a) (d := d - 1) (by omega) hc_6) (by omega) rfl hl.1 rfl (mm_cat rfl) dX9_bendsAll_46 hP hD hA hS rfl rfl (fun H locs hP hD hS => ?_)
        refine W.eq (g2 := F0 m 49 ls [.int r_5, .int x4, .ref (a 15)]) rfl ?_
        refine lv_goto (tgt := 53) hx hb dX9_bendsAll_49 (by decide) ?_
        exact tX9_bendsAll_53 hd C0 hA N ih _ _ _ _ _ _ _ _ _ _ _ _ _ _ _ _ _ _ _ _ _ _ _ _ _ _ _ H locs ls hf hP hD hS (lv_sub hl [0, 1, 2, 3, 4] rfl)

def fX9_bendsAll (N : Nat) (x1 : Int32) (x2 : Int32) (x3 : Int32) (v_rowsOf : Int32) (v_columnsOf : Int32) (v_textMany : Int32) (v_base : Int32) (v_at : Int32) (v_ends : Int32) (v_fault : Int32) (v_opened : Int32) (v_bentMany : Int32) (v_bentWrong : Int32) (v_moreWorn : Int32) (v_limit : List Int32) (v_row : List Int32) (v_column : List Int32) (v_face : List Int32) (v_worn : List Int32) (v_lastBend : List Int32) (v_tape : List Int32) (v_text : List Int32) (v_names : List Int32) (v_bends : List Int32) : Option (Int32 × Int32 × Int32 × Int32 × Int32 × Int32 × Int32 × Int32 × List Int32 × List Int32 × List Int32 × List Int32) :=
    fX9_bendsAll_18 N N x1 x2 x3 (0 : Int32) v_rowsOf v_columnsOf v_textMany v_base v_at v_ends v_fault v_opened (0 : Int32) (0 : Int32) (0 : Int32) v_limit v_row v_column v_face v_worn v_lastBend v_tape v_text v_names v_bends

set_option maxHeartbeats 4000000 in
set_option maxRecDepth 100000 in
theorem ctX9_bendsAll {l : Launch} {D : va_G} {cI cL cS cH : ClassId} {a : Nat → Nat} {x1 : Int32} {x2 : Int32} {x3 : Int32} {v_keptMany : Int32} {v_done : Int32} {v_rowsOf : Int32} {v_columnsOf : Int32} {v_folded : Int32} {v_wronged : Int32} {v_tapeMany : Int32} {v_textMany : Int32} {v_base : Int32} {v_at : Int32} {v_ends : Int32} {v_fault : Int32} {v_opened : Int32} {v_bentMany : Int32} {v_bentWrong : Int32} {v_moreWorn : Int32} {v_planned : Int32} {v_allWrong : Int32} {v_allWorn : Int32} {v_z : Int32} {v_wishedField : Int32} {v_isFound : Bool} {v_bestWrong : Int32} {v_bestWorn : Int32} {v_bestMany : Int32} {v_soughtBy : Int32} {v_sought : Int32} {v_soughtAt : Int32} {v_foundMany : Int32} {v_foundOrder : Int32} {v_isKept : Bool} {v_imageRows : Int32} {v_imageColumns : Int32} {v_imageFolded : Int32} {v_imageWronged : Int32} {v_bodies : Int32} {v_ran : Int32} {v_ownKind : Int32} {v_ownNumber : Int32} {v_limit : List Int32} {v_changeWas : List Int32} {v_changeIs : List Int32} {v_shapeRows : List Int32} {v_shapeColumns : List Int32} {v_row : List Int32} {v_column : List Int32} {v_below : List Int32} {v_face : List Int32} {v_worn : List Int32} {v_lastBend : List Int32} {v_tape : List Int32} {v_text : List Int32} {v_names : List Int32} {v_bends : List Int32} {v_high : List Int32} {v_to : List Int32} {v_pileSize : List Int32} {v_planLine : List Int32} {v_planWay : List Int32} {v_way1 : List Int32} {v_bestWay : List Int32} {v_order1 : List Int32} {v_placeIn : List Int32} {v_bodyKind : List Int32} {v_trace : List Int32} {v_shelf : List Int32} {v_many : List Int32} {v_items : List Int64} {v_carried : List Int64} {w_base : Int32} {w_at : Int32} {w_ends : Int32} {w_fault : Int32} {w_opened : Int32} {w_bentMany : Int32} {w_bentWrong : Int32} {w_moreWorn : Int32} {w_worn : List Int32} {w_lastBend : List Int32} {w_names : List Int32} {w_bends : List Int32} {N d : Nat} (hd : 58 ≤ d) (hf : fX9_bendsAll N x1 x2 x3 v_rowsOf v_columnsOf v_textMany v_base v_at v_ends v_fault v_opened v_bentMany v_bentWrong v_moreWorn v_limit v_row v_column v_face v_worn v_lastBend v_tape v_text v_names v_bends = some (w_base, w_at, w_ends, w_fault, w_opened, w_bentMany, w_bentWrong, w_moreWorn, w_worn, w_lastBend, w_names, w_bends)) : mm_Ct l yX9_bendsAll cX9_bendsAll 9 none d D (mm_T cI cL cS cH) [.ref (a 0), .int x1, .int x2, .int x3] (wd_X9 cI cL cS cH a v_keptMany v_done v_rowsOf v_columnsOf v_folded v_wronged v_tapeMany v_textMany v_base v_at v_ends v_fault v_opened v_bentMany v_bentWrong v_moreWorn v_planned v_allWrong v_allWorn v_z v_wishedField v_isFound v_bestWrong v_bestWorn v_bestMany v_soughtBy v_sought v_soughtAt v_foundMany v_foundOrder v_isKept v_imageRows v_imageColumns v_imageFolded v_imageWronged v_bodies v_ran v_ownKind v_ownNumber v_limit v_changeWas v_changeIs v_shapeRows v_shapeColumns v_row v_column v_below v_face v_worn v_lastBend v_tape v_text v_names v_bends v_high v_to v_pileSize v_planLine v_planWay v_way1 v_bestWay v_order1 v_placeIn v_bodyKind v_trace v_shelf v_many v_items v_carried) (wd_X9 cI cL cS cH a v_keptMany v_done v_rowsOf v_columnsOf v_folded v_wronged v_tapeMany v_textMany w_base w_at w_ends w_fault w_opened w_bentMany w_bentWrong w_moreWorn v_planned v_allWrong v_allWorn v_z v_wishedField v_isFound v_bestWrong v_bestWorn v_bestMany v_soughtBy v_sought v_soughtAt v_foundMany v_foundOrder v_isKept v_imageRows v_imageColumns v_imageFolded v_imageWronged v_bodies v_ran v_ownKind v_ownNumber v_limit v_changeWas v_changeIs v_shapeRows v_shapeColumns v_row v_column v_below v_face w_worn w_lastBend v_tape v_text w_names w_bends v_high v_to v_pileSize v_planLine v_planWay v_way1 v_bestWay v_order1 v_placeIn v_bodyKind v_trace v_shelf v_many v_items v_carried) none := by
  refine mm_of (by decide) (Nat.le_of_ble_eq_true rfl) ?_
  intro p e s m args below meth c A H locs ls C0 hP hD hA hS hl
  have C0 : mm_Cx p s m args meth c RX9 cX9_bendsAll 9 none D (mm_T cI cL cS cH) A := C0
  obtain ⟨hx, hb, hml, hown, hts, hr, hlocks, hK, hSt⟩ := id C0
  have hl : lv_has ls 9 [(0, .ref (a 0)), (1, .int x1), (2, .int x2), (3, .int x3)] := hl
  unfold fX9_bendsAll at hf
  refine lv_aload_n hx hb dX9_bendsAll_0 rfl (lv_at hl 0 rfl) ?_
  refine lv_iconst (v := 0) hx hb dX9_bendsAll_1 (by decide) ?_
  refine mm_put C0 hP hD hS iw_X9 tyX9 tyX9_ok nmX9 0 rfl rfl 28 (by decide) fl_X9_208 rfl rfl rfl (Nat.le_of_ble_eq_true rfl) dX9_bendsAll_2 (w2 := (wd_X9 cI cL cS cH a v_keptMany v_done v_rowsOf v_columnsOf v_folded v_wronged v_tapeMany v_textMany v_base v_at v_ends v_fault v_opened (0 : Int32) v_bentWrong v_moreWorn v_planned v_allWrong v_allWorn v_z v_wishedField v_isFound v_bestWrong v_bestWorn v_bestMany v_soughtBy v_sought v_soughtAt v_foundMany v_foundOrder v_isKept v_imageRows v_imageColumns v_imageFolded v_imageWronged v_bodies v_ran v_ownKind v_ownNumber v_limit v_changeWas v_changeIs v_shapeRows v_shapeColumns v_row v_column v_below v_face v_worn v_lastBend v_tape v_text v_names v_bends v_high v_to v_pileSize v_planLine v_planWay v_way1 v_bestWay v_order1 v_placeIn v_bodyKind v_trace v_shelf v_many v_items v_carried)) rfl (fun H locs hP hD hS => ?_)
  refine lv_aload_n hx hb dX9_bendsAll_5 rfl (lv_at hl 0 rfl) ?_
  refine lv_iconst (v := 0) hx hb dX9_bendsAll_6 (by decide) ?_
  refine mm_put C0 hP hD hS iw_X9 tyX9 tyX9_ok nmX9 0 rfl rfl 29 (by decide) fl_X9_211 rfl rfl rfl (Nat.le_of_ble_eq_true rfl) dX9_bendsAll_7 (w2 := (wd_X9 cI cL cS cH a v_keptMany v_done v_rowsOf v_columnsOf v_folded v_wronged v_tapeMany v_textMany v_base v_at v_ends v_fault v_opened (0 : Int32) (0 : Int32) v_moreWorn v_planned v_allWrong v_allWorn v_z v_wishedField v_isFound v_bestWrong v_bestWorn v_bestMany v_soughtBy v_sought v_soughtAt v_foundMany v_foundOrder v_isKept v_imageRows v_imageColumns v_imageFolded v_imageWronged v_bodies v_ran v_ownKind v_ownNumber v_limit v_changeWas v_changeIs v_shapeRows v_shapeColumns v_row v_column v_below v_face v_worn v_lastBend v_tape v_text v_names v_bends v_high v_to v_pileSize v_planLine v_planWay v_way1 v_bestWay v_order1 v_placeIn v_bodyKind v_trace v_shelf v_many v_items v_carried)) rfl (fun H locs hP hD hS => ?_)
  refine lv_aload_n hx hb dX9_bendsAll_10 rfl (lv_at hl 0 rfl) ?_
  refine lv_iconst (v := 0) hx hb dX9_bendsAll_11 (by decide) ?_
  refine mm_put C0 hP hD hS iw_X9 tyX9 tyX9_ok nmX9 0 rfl rfl 30 (by decide) fl_X9_214 rfl rfl rfl (Nat.le_of_ble_eq_true rfl) dX9_bendsAll_12 (w2 := (wd_X9 cI cL cS cH a v_keptMany v_done v_rowsOf v_columnsOf v_folded v_wronged v_tapeMany v_textMany v_base v_at v_ends v_fault v_opened (0 : Int32) (0 : Int32) (0 : Int32) v_planned v_allWrong v_allWorn v_z v_wishedField v_isFound v_bestWrong v_bestWorn v_bestMany v_soughtBy v_sought v_soughtAt v_foundMany v_foundOrder v_isKept v_imageRows v_imageColumns v_imageFolded v_imageWronged v_bodies v_ran v_ownKind v_ownNumber v_limit v_changeWas v_changeIs v_shapeRows v_shapeColumns v_row v_column v_below v_face v_worn v_lastBend v_tape v_text v_names v_bends v_high v_to v_pileSize v_planLine v_planWay v_way1 v_bestWay v_order1 v_placeIn v_bodyKind v_trace v_shelf v_many v_items v_carried)) rfl (fun H locs hP hD hS => ?_)
  refine lv_iconst (v := 0) hx hb dX9_bendsAll_15 (by decide) ?_
  refine lv_istore (lv' := [(4, .int (0 : Int32)), (0, .ref (a 0)), (1, .int x1), (2, .int x2), (3, .int x3)]) hx hb dX9_bendsAll_16 hl (by decide) rfl (fun ls hl => ?_)
  exact tX9_bendsAll_18 hd C0 hA N  N _ _ _ _ _ _ _ _ _ _ _ _ _ _ _ _ _ _ _ _ _ _ _ _ _ H locs ls hf hP hD hS (lv_sub hl [1, 2, 3, 4, 0] rfl)

theorem nb_dX9_pileAt_0 : bls_w cX9_pileAt [(0, [16, 8]), (2, [27]), (3, [104]), (4, [26]), (5, [96]), (6, [172])] := bls_of (by decide +kernel)
set_option maxRecDepth 100000 in
theorem dX9_pileAt_0 : decode cX9_pileAt 0 = .ok (.bipush 8, 2) := (op_16 nb_dX9_pileAt_0.1).trans rfl
theorem dX9_pileAt_2 : decode cX9_pileAt 2 = .ok (.iload_n 1, 1) := op_27 nb_dX9_pileAt_0.2.1
theorem dX9_pileAt_3 : decode cX9_pileAt 3 = .ok (.imul, 1) := op_104 nb_dX9_pileAt_0.2.2.1
theorem dX9_pileAt_4 : decode cX9_pileAt 4 = .ok (.iload_n 0, 1) := op_26 nb_dX9_pileAt_0.2.2.2.1
theorem dX9_pileAt_5 : decode cX9_pileAt 5 = .ok (.iadd, 1) := op_96 nb_dX9_pileAt_0.2.2.2.2.1
theorem dX9_pileAt_6 : decode cX9_pileAt 6 = .ok (.ireturn, 1) := op_172 nb_dX9_pileAt_0.2.2.2.2.2.1
def fX9_pileAt (N : Nat) (x0 : Int32) (x1 : Int32) : Option (Int32) :=
    some ((((8 : Int32) * x1) + x0))

set_option maxHeartbeats 4000000 in
set_option maxRecDepth 100000 in
theorem ctX9_pileAt {l : Launch} {D : va_G} {cI cL cS cH : ClassId} {x0 : Int32} {x1 : Int32}  {r : Int32} {N d : Nat} (hd : 1 ≤ d) (hf : fX9_pileAt N x0 x1 = some r) : mm_Ct l yX9_pileAt cX9_pileAt 2 (some .int) d D (mm_T cI cL cS cH) [.int x0, .int x1] ([] : va_W) ([] : va_W) (some (.int r)) := by
  refine mm_of (by decide) (Nat.le_of_ble_eq_true rfl) ?_
  intro p e s m args below meth c A H locs ls C0 hP hD hA hS hl
  have C0 : mm_Cx p s m args meth c RX9 cX9_pileAt 2 (some .int) D (mm_T cI cL cS cH) A := C0
  obtain ⟨hx, hb, hml, hown, hts, hr, hlocks, hK, hSt⟩ := id C0
  have hl : lv_has ls 2 [(0, .int x0), (1, .int x1)] := hl
  unfold fX9_pileAt at hf
  refine lv_bipush (v := 8) hx hb dX9_pileAt_0 (by decide) ?_
  refine lv_iload_n hx hb dX9_pileAt_2 rfl (lv_at hl 1 rfl) ?_
  refine lv_imul hx hb dX9_pileAt_3 ?_
  refine lv_iload_n hx hb dX9_pileAt_4 rfl (lv_at hl 0 rfl) ?_
  refine lv_iadd hx hb dX9_pileAt_5 ?_
  obtain rfl := mm_inj1 hf
  exact mm_iret C0 hP hD hS dX9_pileAt_6
end
